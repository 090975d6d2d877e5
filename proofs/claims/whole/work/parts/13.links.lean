theorem mT1 {w : Cond} (h : w ∈ tables_1_1) (g : goodWord w = true) : w ∈ wAll := List.mem_filter.mpr ⟨List.mem_append_right _ (show w ∈ tables_1_1 ++ (tables_1_2 ++ (tables_1_3 ++ (tables_1_4 ++ (tables_1_5 ++ tables_1_6)))) from List.mem_append_left _ h), g⟩
theorem mT2 {w : Cond} (h : w ∈ tables_1_2) (g : goodWord w = true) : w ∈ wAll := List.mem_filter.mpr ⟨List.mem_append_right _ (show w ∈ tables_1_1 ++ (tables_1_2 ++ (tables_1_3 ++ (tables_1_4 ++ (tables_1_5 ++ tables_1_6)))) from List.mem_append_right _ (List.mem_append_left _ h)), g⟩
theorem mT3 {w : Cond} (h : w ∈ tables_1_3) (g : goodWord w = true) : w ∈ wAll := List.mem_filter.mpr ⟨List.mem_append_right _ (show w ∈ tables_1_1 ++ (tables_1_2 ++ (tables_1_3 ++ (tables_1_4 ++ (tables_1_5 ++ tables_1_6)))) from List.mem_append_right _ (List.mem_append_right _ (List.mem_append_left _ h))), g⟩
theorem mT4 {w : Cond} (h : w ∈ tables_1_4) (g : goodWord w = true) : w ∈ wAll := List.mem_filter.mpr ⟨List.mem_append_right _ (show w ∈ tables_1_1 ++ (tables_1_2 ++ (tables_1_3 ++ (tables_1_4 ++ (tables_1_5 ++ tables_1_6)))) from List.mem_append_right _ (List.mem_append_right _ (List.mem_append_right _ (List.mem_append_left _ h)))), g⟩
theorem mT5 {w : Cond} (h : w ∈ tables_1_5) (g : goodWord w = true) : w ∈ wAll := List.mem_filter.mpr ⟨List.mem_append_right _ (show w ∈ tables_1_1 ++ (tables_1_2 ++ (tables_1_3 ++ (tables_1_4 ++ (tables_1_5 ++ tables_1_6)))) from List.mem_append_right _ (List.mem_append_right _ (List.mem_append_right _ (List.mem_append_right _ (List.mem_append_left _ h))))), g⟩
theorem mT6 {w : Cond} (h : w ∈ tables_1_6) (g : goodWord w = true) : w ∈ wAll := List.mem_filter.mpr ⟨List.mem_append_right _ (show w ∈ tables_1_1 ++ (tables_1_2 ++ (tables_1_3 ++ (tables_1_4 ++ (tables_1_5 ++ tables_1_6)))) from List.mem_append_right _ (List.mem_append_right _ (List.mem_append_right _ (List.mem_append_right _ (List.mem_append_right _ (h)))))), g⟩
theorem mSel {q : MethodName × Nat} (h : q ∈ lw_privs) : Cond.selects q.1.cls q.1 q.1 ∈ wAll := List.mem_filter.mpr ⟨List.mem_append_left _ (List.mem_map.mpr ⟨q, h, rfl⟩), rfl⟩
theorem mP1 {q : MethodName × Nat} (h : q ∈ lw_privs_1) : q ∈ lw_privs := show q ∈ lw_privs_1 ++ (lw_privs_2 ++ (lw_privs_3 ++ (lw_privs_4 ++ (lw_privs_5)))) from List.mem_append_left _ h
theorem mP2 {q : MethodName × Nat} (h : q ∈ lw_privs_2) : q ∈ lw_privs := show q ∈ lw_privs_1 ++ (lw_privs_2 ++ (lw_privs_3 ++ (lw_privs_4 ++ (lw_privs_5)))) from List.mem_append_right _ (List.mem_append_left _ h)
theorem mP3 {q : MethodName × Nat} (h : q ∈ lw_privs_3) : q ∈ lw_privs := show q ∈ lw_privs_1 ++ (lw_privs_2 ++ (lw_privs_3 ++ (lw_privs_4 ++ (lw_privs_5)))) from List.mem_append_right _ (List.mem_append_right _ (List.mem_append_left _ h))
theorem mP4 {q : MethodName × Nat} (h : q ∈ lw_privs_4) : q ∈ lw_privs := show q ∈ lw_privs_1 ++ (lw_privs_2 ++ (lw_privs_3 ++ (lw_privs_4 ++ (lw_privs_5)))) from List.mem_append_right _ (List.mem_append_right _ (List.mem_append_right _ (List.mem_append_left _ h)))
theorem mP5 {q : MethodName × Nat} (h : q ∈ lw_privs_5) : q ∈ lw_privs := show q ∈ lw_privs_1 ++ (lw_privs_2 ++ (lw_privs_3 ++ (lw_privs_4 ++ (lw_privs_5)))) from List.mem_append_right _ (List.mem_append_right _ (List.mem_append_right _ (List.mem_append_right _ (h))))
abbrev mX6_init : Mt := (yX6_init, cX6_init, 1, none)
abbrev mX4_init : Mt := (yX4_init, cX4_init, 2, none)
abbrev mX2_init : Mt := (yX2_init, cX2_init, 1, none)
abbrev mX5_init : Mt := (yX5_init, cX5_init, 1, none)
abbrev mX0_init : Mt := (yX0_init, cX0_init, 1, none)
abbrev mX1_init : Mt := (yX1_init, cX1_init, 1, none)
abbrev mX3_init : Mt := (yX3_init, cX3_init, 1, none)
abbrev mX6_row : Mt := (yX6_row, cX6_row, 4, (some .int))
abbrev mX4_holds : Mt := (yX4_holds, cX4_holds, 1, (some .boolean))
abbrev mX6_within : Mt := (yX6_within, cX6_within, 3, (some .boolean))
abbrev mX6_found : Mt := (yX6_found, cX6_found, 2, (some .int))
abbrev mX4_lay : Mt := (yX4_lay, cX4_lay, 5, none)
abbrev mX6_set : Mt := (yX6_set, cX6_set, 5, (some .int))
abbrev mX4_findingOf : Mt := (yX4_findingOf, cX4_findingOf, 4, (some .int))
abbrev mX4_isMissing : Mt := (yX4_isMissing, cX4_isMissing, 2, (some .boolean))
abbrev mX4_isSpan : Mt := (yX4_isSpan, cX4_isSpan, 4, (some .boolean))
abbrev mX4_put : Mt := (yX4_put, cX4_put, 4, (some .int))
abbrev mX6_copy : Mt := (yX6_copy, cX6_copy, 7, (some .int))
abbrev mX4_findingOfMove : Mt := (yX4_findingOfMove, cX4_findingOfMove, 6, (some .int))
abbrev mX4_move : Mt := (yX4_move, cX4_move, 6, none)
abbrev mX6_drop : Mt := (yX6_drop, cX6_drop, 2, (some .int))
abbrev mX4_takeAway : Mt := (yX4_takeAway, cX4_takeAway, 3, (some .int))
abbrev mX6_feed : Mt := (yX6_feed, cX6_feed, 2, (some .int))
abbrev mX2_append : Mt := (yX2_append, cX2_append, 2, (some .boolean))
abbrev mX6_town : Mt := (yX6_town, cX6_town, 2, (some .int))
abbrev mX2_readAll : Mt := (yX2_readAll, cX2_readAll, 1, (some .int))
abbrev mX2_readLaw : Mt := (yX2_readLaw, cX2_readLaw, 1, none)
abbrev mX2_takeSign : Mt := (yX2_takeSign, cX2_takeSign, 2, none)
abbrev mX2_nextByte : Mt := (yX2_nextByte, cX2_nextByte, 1, (some .int))
abbrev mX2_fail : Mt := (yX2_fail, cX2_fail, 2, none)
abbrev mX2_takeNumber : Mt := (yX2_takeNumber, cX2_takeNumber, 6, (some .int))
abbrev mX2_readChildren : Mt := (yX2_readChildren, cX2_readChildren, 2, none)
abbrev mX2_readGrans : Mt := (yX2_readGrans, cX2_readGrans, 2, none)
abbrev mX2_takeSort : Mt := (yX2_takeSort, cX2_takeSort, 2, (some .int))
abbrev mX2_sortOf : Mt := (yX2_sortOf, cX2_sortOf, 1, (some .int))
abbrev mX5_save : Mt := (yX5_save, cX5_save, 4, none)
abbrev mX5_load : Mt := (yX5_load, cX5_load, 4, none)
abbrev mX0_forget : Mt := (yX0_forget, cX0_forget, 1, none)
abbrev mX6_fault : Mt := (yX6_fault, cX6_fault, 1, (some .int))
abbrev mX6_undo : Mt := (yX6_undo, cX6_undo, 1, (some .int))
abbrev mX0_takeBack : Mt := (yX0_takeBack, cX0_takeBack, 2, (some .boolean))
abbrev mX6_days : Mt := (yX6_days, cX6_days, 3, (some .int))
abbrev mX6_noTown : Mt := (yX6_noTown, cX6_noTown, 1, (some .boolean))
abbrev mX0_keep : Mt := (yX0_keep, cX0_keep, 2, none)
abbrev mX5_passDay : Mt := (yX5_passDay, cX5_passDay, 2, none)
abbrev mX5_seat : Mt := (yX5_seat, cX5_seat, 3, none)
abbrev mX5_hostOf : Mt := (yX5_hostOf, cX5_hostOf, 3, (some .int))
abbrev mX5_brings : Mt := (yX5_brings, cX5_brings, 2, (some .boolean))
abbrev mX5_visit : Mt := (yX5_visit, cX5_visit, 3, none)
abbrev mX5_addFed : Mt := (yX5_addFed, cX5_addFed, 3, none)
abbrev mJ9_min_7cf53 : Mt := (yJ9_min_7cf53, cJ9_min_7cf53, 2, (some .int))
abbrev mJ9_max_7cf53 : Mt := (yJ9_max_7cf53, cJ9_max_7cf53, 2, (some .int))
abbrev mX5_addSpoilt : Mt := (yX5_addSpoilt, cX5_addSpoilt, 3, none)
abbrev mX6_sick : Mt := (yX6_sick, cX6_sick, 4, (some .int))
abbrev mX5_hasGran : Mt := (yX5_hasGran, cX5_hasGran, 2, (some .boolean))
abbrev mX6_swap : Mt := (yX6_swap, cX6_swap, 4, (some .int))
abbrev mX5_hasChild : Mt := (yX5_hasChild, cX5_hasChild, 2, (some .boolean))
abbrev mX6_pace : Mt := (yX6_pace, cX6_pace, 4, (some .int))
abbrev mX6_quarrel : Mt := (yX6_quarrel, cX6_quarrel, 4, (some .int))
abbrev mX6_spoil : Mt := (yX6_spoil, cX6_spoil, 3, (some .int))
abbrev mX6_gran : Mt := (yX6_gran, cX6_gran, 3, (some .int))
abbrev mX5_lostOn : Mt := (yX5_lostOn, cX5_lostOn, 4, (some .int))
abbrev mX6_child : Mt := (yX6_child, cX6_child, 3, (some .int))
abbrev mX5_guestsOf : Mt := (yX5_guestsOf, cX5_guestsOf, 2, (some .int))
abbrev mX6_ahead : Mt := (yX6_ahead, cX6_ahead, 4, (some .int))
abbrev mX6_openTrial : Mt := (yX6_openTrial, cX6_openTrial, 1, none)
abbrev mX5_passDays : Mt := (yX5_passDays, cX5_passDays, 3, none)
abbrev mX6_withWhom : Mt := (yX6_withWhom, cX6_withWhom, 3, (some .int))
abbrev mX6_whole : Mt := (yX6_whole, cX6_whole, 2, (some .int))
abbrev mX5_daysToWhole : Mt := (yX5_daysToWhole, cX5_daysToWhole, 4, (some .int))
abbrev mX6_hungry : Mt := (yX6_hungry, cX6_hungry, 3, (some .int))
abbrev mX6_without : Mt := (yX6_without, cX6_without, 2, (some .int))
abbrev mX5_allChildren : Mt := (yX5_allChildren, cX5_allChildren, 1, (some .int))
abbrev mX5_servedIn : Mt := (yX5_servedIn, cX5_servedIn, 4, (some .int))
abbrev mX5_servedOn : Mt := (yX5_servedOn, cX5_servedOn, 4, (some .int))
abbrev mX6_rota : Mt := (yX6_rota, cX6_rota, 5, (some .int))
abbrev mX3_fewestChanges : Mt := (yX3_fewestChanges, cX3_fewestChanges, 5, (some .int))
abbrev mX3_longestIll : Mt := (yX3_longestIll, cX3_longestIll, 3, (some .int))
abbrev mX3_noteReach : Mt := (yX3_noteReach, cX3_noteReach, 3, none)
abbrev mX3_visited : Mt := (yX3_visited, cX3_visited, 5, (some .int))
abbrev mX3_place : Mt := (yX3_place, cX3_place, 6, (some .boolean))
abbrev mX6_meets : Mt := (yX6_meets, cX6_meets, 5, (some .int))
abbrev mX6_lost : Mt := (yX6_lost, cX6_lost, 4, (some .int))
abbrev mJ6_bitCount_0f7a4 : Mt := (yJ6_bitCount_0f7a4, cJ6_bitCount_0f7a4, 1, (some .int))
abbrev mX6_swaps : Mt := (yX6_swaps, cX6_swaps, 7, (some .int))
abbrev mX6_isGoodSwap : Mt := (yX6_isGoodSwap, cX6_isGoodSwap, 6, (some .boolean))
abbrev mX6_soon : Mt := (yX6_soon, cX6_soon, 7, (some .int))
abbrev mX6_who : Mt := (yX6_who, cX6_who, 9, (some .int))
abbrev mX6_refusalOfTold : Mt := (yX6_refusalOfTold, cX6_refusalOfTold, 7, (some .int))
abbrev mX6_isFedAsTold : Mt := (yX6_isFedAsTold, cX6_isFedAsTold, 6, (some .boolean))
abbrev mX4_itemAt : Mt := (yX4_itemAt, cX4_itemAt, 3, (some .int))
abbrev mX6_firsts : Mt := (yX6_firsts, cX6_firsts, 9, (some .int))
abbrev mX6_steps : Mt := (yX6_steps, cX6_steps, 9, (some .int))
abbrev mX6_even : Mt := (yX6_even, cX6_even, 5, (some .int))
abbrev mX6_fever : Mt := (yX6_fever, cX6_fever, 11, (some .long))
abbrev mX6_power : Mt := (yX6_power, cX6_power, 5, (some .long))
abbrev mX5_hasPeaceful : Mt := (yX5_hasPeaceful, cX5_hasPeaceful, 3, (some .boolean))
abbrev mX6_commonDivisor : Mt := (yX6_commonDivisor, cX6_commonDivisor, 11, (some .long))
abbrev mJ9_max_f86c9 : Mt := (yJ9_max_f86c9, cJ9_max_f86c9, 4, (some .long))
abbrev mX6_drawn : Mt := (yX6_drawn, cX6_drawn, 7, (some .int))
abbrev mX5_fallIll : Mt := (yX5_fallIll, cX5_fallIll, 3, none)
abbrev mX5_sumOf : Mt := (yX5_sumOf, cX5_sumOf, 4, (some .int))
abbrev mX6_image : Mt := (yX6_image, cX6_image, 2, (some .int))
abbrev mX6_restore : Mt := (yX6_restore, cX6_restore, 2, (some .int))
abbrev mX6_kind : Mt := (yX6_kind, cX6_kind, 2, (some .int))
abbrev mX6_as : Mt := (yX6_as, cX6_as, 3, (some .int))
abbrev mX6_isOfKind : Mt := (yX6_isOfKind, cX6_isOfKind, 4, (some .boolean))
abbrev mX6_ask : Mt := (yX6_ask, cX6_ask, 3, (some .int))
abbrev mX1_turnTo : Mt := (yX1_turnTo, cX1_turnTo, 3, none)
abbrev mX1_sizeAsked : Mt := (yX1_sizeAsked, cX1_sizeAsked, 1, (some .int))
abbrev mX1_begin : Mt := (yX1_begin, cX1_begin, 2, none)
abbrev mX1_sizeOfSoup : Mt := (yX1_sizeOfSoup, cX1_sizeOfSoup, 1, (some .int))
abbrev mX1_sizeLent : Mt := (yX1_sizeLent, cX1_sizeLent, 1, (some .int))
abbrev mX1_markOfSoup : Mt := (yX1_markOfSoup, cX1_markOfSoup, 1, (some .int))
abbrev mX1_markOfAnySoup : Mt := (yX1_markOfAnySoup, cX1_markOfAnySoup, 1, (some .int))
abbrev mX1_markLent : Mt := (yX1_markLent, cX1_markLent, 1, (some .int))
abbrev mX1_sizeOfStern : Mt := (yX1_sizeOfStern, cX1_sizeOfStern, 1, (some .int))
abbrev mX1_sizeOfAnyStern : Mt := (yX1_sizeOfAnyStern, cX1_sizeOfAnyStern, 1, (some .int))
abbrev mX1_markAsked : Mt := (yX1_markAsked, cX1_markAsked, 1, (some .int))
abbrev mX1_markOfStern : Mt := (yX1_markOfStern, cX1_markOfStern, 1, (some .int))
abbrev mX6_trace : Mt := (yX6_trace, cX6_trace, 2, (some .int))
abbrev mX6_count : Mt := (yX6_count, cX6_count, 2, (some .int))
abbrev mX4_rowsThere : Mt := (yX4_rowsThere, cX4_rowsThere, 3, (some .int))
abbrev mX6_status : Mt := (yX6_status, cX6_status, 1, (some .int))
abbrev mX7_init : Mt := (yX7_init, cX7_init, 1, none)
abbrev mX7_row : Mt := (yX7_row, cX7_row, 5, (some .int))
abbrev mX7_isRow : Mt := (yX7_isRow, cX7_isRow, 1, (some .boolean))
abbrev mX7_in : Mt := (yX7_in, cX7_in, 6, (some .boolean))
abbrev mX7_find : Mt := (yX7_find, cX7_find, 2, (some .int))
abbrev mX7_well : Mt := (yX7_well, cX7_well, 2, (some .int))
abbrev mX7_set : Mt := (yX7_set, cX7_set, 4, (some .int))
abbrev mX7_narrow : Mt := (yX7_narrow, cX7_narrow, 2, (some .int))
abbrev mX7_copy : Mt := (yX7_copy, cX7_copy, 9, (some .int))
abbrev mX7_isSpan : Mt := (yX7_isSpan, cX7_isSpan, 4, (some .boolean))
abbrev mX7_drop : Mt := (yX7_drop, cX7_drop, 3, (some .int))
abbrev mX7_feed : Mt := (yX7_feed, cX7_feed, 2, (some .int))
abbrev mX7_town : Mt := (yX7_town, cX7_town, 2, (some .int))
abbrev mX7_reads : Mt := (yX7_reads, cX7_reads, 2, (some .boolean))
abbrev mX7_readsLaw : Mt := (yX7_readsLaw, cX7_readsLaw, 1, (some .boolean))
abbrev mX7_sign : Mt := (yX7_sign, cX7_sign, 2, (some .boolean))
abbrev mX7_isLetter : Mt := (yX7_isLetter, cX7_isLetter, 2, (some .boolean))
abbrev mX7_refuse : Mt := (yX7_refuse, cX7_refuse, 2, (some .boolean))
abbrev mX7_readsNumber : Mt := (yX7_readsNumber, cX7_readsNumber, 4, (some .boolean))
abbrev mX7_isFigure : Mt := (yX7_isFigure, cX7_isFigure, 2, (some .boolean))
abbrev mX7_readsChild : Mt := (yX7_readsChild, cX7_readsChild, 2, (some .boolean))
abbrev mX7_isSort : Mt := (yX7_isSort, cX7_isSort, 1, (some .boolean))
abbrev mX7_kindOfLetter : Mt := (yX7_kindOfLetter, cX7_kindOfLetter, 1, (some .int))
abbrev mX7_readsGran : Mt := (yX7_readsGran, cX7_readsGran, 2, (some .boolean))
abbrev mX7_copyTown : Mt := (yX7_copyTown, cX7_copyTown, 4, none)
abbrev mX7_fault : Mt := (yX7_fault, cX7_fault, 1, (some .int))
abbrev mX7_undo : Mt := (yX7_undo, cX7_undo, 1, (some .int))
abbrev mX7_days : Mt := (yX7_days, cX7_days, 3, (some .int))
abbrev mX7_keepPast : Mt := (yX7_keepPast, cX7_keepPast, 2, none)
abbrev mX7_pass : Mt := (yX7_pass, cX7_pass, 3, none)
abbrev mX7_withOf : Mt := (yX7_withOf, cX7_withOf, 3, (some .int))
abbrev mX7_isLost : Mt := (yX7_isLost, cX7_isLost, 6, (some .boolean))
abbrev mX7_has : Mt := (yX7_has, cX7_has, 2, (some .boolean))
abbrev mX7_brings : Mt := (yX7_brings, cX7_brings, 5, none)
abbrev mX7_feeds : Mt := (yX7_feeds, cX7_feeds, 4, none)
abbrev mX7_between : Mt := (yX7_between, cX7_between, 2, (some .int))
abbrev mX7_spoils : Mt := (yX7_spoils, cX7_spoils, 4, none)
abbrev mX7_sick : Mt := (yX7_sick, cX7_sick, 3, (some .int))
abbrev mX7_isGran : Mt := (yX7_isGran, cX7_isGran, 2, (some .boolean))
abbrev mX7_put : Mt := (yX7_put, cX7_put, 4, (some .int))
abbrev mX7_swap : Mt := (yX7_swap, cX7_swap, 3, (some .int))
abbrev mX7_isChild : Mt := (yX7_isChild, cX7_isChild, 2, (some .boolean))
abbrev mX7_pace : Mt := (yX7_pace, cX7_pace, 3, (some .int))
abbrev mX7_quarrel : Mt := (yX7_quarrel, cX7_quarrel, 4, (some .int))
abbrev mX7_areTwo : Mt := (yX7_areTwo, cX7_areTwo, 3, (some .boolean))
abbrev mX7_spoil : Mt := (yX7_spoil, cX7_spoil, 3, (some .int))
abbrev mX7_gran : Mt := (yX7_gran, cX7_gran, 3, (some .int))
abbrev mX7_child : Mt := (yX7_child, cX7_child, 3, (some .int))
abbrev mX7_visitors : Mt := (yX7_visitors, cX7_visitors, 4, (some .int))
abbrev mX7_ahead : Mt := (yX7_ahead, cX7_ahead, 4, (some .int))
abbrev mX7_layTried : Mt := (yX7_layTried, cX7_layTried, 3, none)
abbrev mX7_withWhom : Mt := (yX7_withWhom, cX7_withWhom, 3, (some .int))
abbrev mX7_whole : Mt := (yX7_whole, cX7_whole, 2, (some .int))
abbrev mX7_wholeTried : Mt := (yX7_wholeTried, cX7_wholeTried, 3, (some .int))
abbrev mX7_hungry : Mt := (yX7_hungry, cX7_hungry, 3, (some .int))
abbrev mX7_without : Mt := (yX7_without, cX7_without, 2, (some .int))
abbrev mX7_allChildren : Mt := (yX7_allChildren, cX7_allChildren, 1, (some .int))
abbrev mX7_visitedTried : Mt := (yX7_visitedTried, cX7_visitedTried, 6, (some .int))
abbrev mX7_rota : Mt := (yX7_rota, cX7_rota, 8, (some .int))
abbrev mX7_changes : Mt := (yX7_changes, cX7_changes, 3, (some .int))
abbrev mX7_servesAll : Mt := (yX7_servesAll, cX7_servesAll, 4, (some .boolean))
abbrev mX7_nextFirsts : Mt := (yX7_nextFirsts, cX7_nextFirsts, 2, (some .boolean))
abbrev mX7_meets : Mt := (yX7_meets, cX7_meets, 4, (some .int))
abbrev mX7_lost : Mt := (yX7_lost, cX7_lost, 5, (some .int))
abbrev mX7_swaps : Mt := (yX7_swaps, cX7_swaps, 8, (some .int))
abbrev mX7_isBetter : Mt := (yX7_isBetter, cX7_isBetter, 7, (some .boolean))
abbrev mX7_soon : Mt := (yX7_soon, cX7_soon, 8, (some .int))
abbrev mX7_who : Mt := (yX7_who, cX7_who, 9, (some .int))
abbrev mX7_noItems : Mt := (yX7_noItems, cX7_noItems, 6, (some .int))
abbrev mX7_isFedSo : Mt := (yX7_isFedSo, cX7_isFedSo, 8, (some .boolean))
abbrev mX7_firsts : Mt := (yX7_firsts, cX7_firsts, 9, (some .int))
abbrev mX7_steps : Mt := (yX7_steps, cX7_steps, 9, (some .int))
abbrev mX7_even : Mt := (yX7_even, cX7_even, 6, (some .int))
abbrev mX7_fever : Mt := (yX7_fever, cX7_fever, 14, (some .long))
abbrev mX7_isVisited : Mt := (yX7_isVisited, cX7_isVisited, 4, (some .boolean))
abbrev mX7_drawn : Mt := (yX7_drawn, cX7_drawn, 7, (some .int))
abbrev mX7_sumOf : Mt := (yX7_sumOf, cX7_sumOf, 4, (some .int))
abbrev mX7_image : Mt := (yX7_image, cX7_image, 2, (some .int))
abbrev mX7_restore : Mt := (yX7_restore, cX7_restore, 2, (some .int))
abbrev mX7_kind : Mt := (yX7_kind, cX7_kind, 2, (some .int))
abbrev mX7_as : Mt := (yX7_as, cX7_as, 3, (some .int))
abbrev mX7_isOf : Mt := (yX7_isOf, cX7_isOf, 4, (some .boolean))
abbrev mX7_ask : Mt := (yX7_ask, cX7_ask, 3, (some .int))
abbrev mX7_sizeOf : Mt := (yX7_sizeOf, cX7_sizeOf, 2, (some .int))
abbrev mX7_begin : Mt := (yX7_begin, cX7_begin, 2, none)
abbrev mX7_soupsSize : Mt := (yX7_soupsSize, cX7_soupsSize, 3, (some .int))
abbrev mX7_lentSize : Mt := (yX7_lentSize, cX7_lentSize, 2, (some .int))
abbrev mX7_mark : Mt := (yX7_mark, cX7_mark, 2, (some .int))
abbrev mX7_soupsMark : Mt := (yX7_soupsMark, cX7_soupsMark, 2, (some .int))
abbrev mX7_lentMark : Mt := (yX7_lentMark, cX7_lentMark, 2, (some .int))
abbrev mX7_sternSize : Mt := (yX7_sternSize, cX7_sternSize, 2, (some .int))
abbrev mX7_sternMark : Mt := (yX7_sternMark, cX7_sternMark, 3, (some .int))
abbrev mX7_trace : Mt := (yX7_trace, cX7_trace, 2, (some .int))
abbrev mX7_count : Mt := (yX7_count, cX7_count, 4, (some .int))
abbrev mX7_status : Mt := (yX7_status, cX7_status, 1, (some .int))
set_option maxRecDepth 20000 in
theorem lb_X6_init : LBt mX6_init 0 := ⟨mT1 (List.mem_of_getElem? (i := 1) rfl) rfl, mT1 (List.mem_of_getElem? (i := 16) rfl) rfl, ⟨by decide +kernel, by decide +kernel, by decide +kernel⟩, by decide⟩
set_option maxRecDepth 20000 in
theorem lb_X4_init : LBt mX4_init 0 := ⟨mT1 (List.mem_of_getElem? (i := 2) rfl) rfl, mT1 (List.mem_of_getElem? (i := 24) rfl) rfl, ⟨by decide +kernel, by decide +kernel, by decide +kernel⟩, by decide⟩
set_option maxRecDepth 20000 in
theorem lb_X2_init : LBt mX2_init 0 := ⟨mT1 (List.mem_of_getElem? (i := 3) rfl) rfl, mT1 (List.mem_of_getElem? (i := 43) rfl) rfl, ⟨by decide +kernel, by decide +kernel, by decide +kernel⟩, by decide⟩
set_option maxRecDepth 20000 in
theorem lb_X5_init : LBt mX5_init 0 := ⟨mT1 (List.mem_of_getElem? (i := 4) rfl) rfl, mT1 (List.mem_of_getElem? (i := 49) rfl) rfl, ⟨by decide +kernel, by decide +kernel, by decide +kernel⟩, by decide⟩
set_option maxRecDepth 20000 in
theorem lb_X0_init : LBt mX0_init 0 := ⟨mT1 (List.mem_of_getElem? (i := 5) rfl) rfl, mT1 (List.mem_of_getElem? (i := 160) rfl) rfl, ⟨by decide +kernel, by decide +kernel, by decide +kernel⟩, by decide⟩
set_option maxRecDepth 20000 in
theorem lb_X1_init : LBt mX1_init 0 := ⟨mT1 (List.mem_of_getElem? (i := 6) rfl) rfl, mT1 (List.mem_of_getElem? (i := 179) rfl) rfl, ⟨by decide +kernel, by decide +kernel, by decide +kernel⟩, by decide⟩
set_option maxRecDepth 20000 in
theorem lb_X3_init : LBt mX3_init 0 := ⟨mT1 (List.mem_of_getElem? (i := 7) rfl) rfl, mT1 (List.mem_of_getElem? (i := 207) rfl) rfl, ⟨by decide +kernel, by decide +kernel, by decide +kernel⟩, by decide⟩
set_option maxRecDepth 20000 in
theorem lb_X6_row : LBt mX6_row 3 := ⟨mT1 (List.mem_of_getElem? (i := 1) rfl) rfl, mT2 (List.mem_of_getElem? (i := 34) rfl) rfl, ⟨by decide +kernel, by decide +kernel, by decide +kernel⟩, by decide⟩
set_option maxRecDepth 20000 in
theorem lb_X4_holds : LBt mX4_holds 1 := ⟨mT1 (List.mem_of_getElem? (i := 2) rfl) rfl, mT2 (List.mem_of_getElem? (i := 37) rfl) rfl, ⟨by decide +kernel, by decide +kernel, by decide +kernel⟩, by decide⟩
set_option maxRecDepth 20000 in
theorem lb_X6_within : LBt mX6_within 3 := ⟨mT1 (List.mem_of_getElem? (i := 1) rfl) rfl, mT2 (List.mem_of_getElem? (i := 40) rfl) rfl, ⟨by decide +kernel, by decide +kernel, by decide +kernel⟩, by decide⟩
set_option maxRecDepth 20000 in
theorem lb_X6_found : LBt mX6_found 1 := ⟨mT1 (List.mem_of_getElem? (i := 1) rfl) rfl, mT2 (List.mem_of_getElem? (i := 46) rfl) rfl, ⟨by decide +kernel, by decide +kernel, by decide +kernel⟩, by decide⟩
set_option maxRecDepth 20000 in
theorem lb_X4_lay : LBt mX4_lay 3 := ⟨mT1 (List.mem_of_getElem? (i := 2) rfl) rfl, mT2 (List.mem_of_getElem? (i := 51) rfl) rfl, ⟨by decide +kernel, by decide +kernel, by decide +kernel⟩, by decide⟩
set_option maxRecDepth 20000 in
theorem lb_X6_set : LBt mX6_set 3 := ⟨mT1 (List.mem_of_getElem? (i := 1) rfl) rfl, mT2 (List.mem_of_getElem? (i := 55) rfl) rfl, ⟨by decide +kernel, by decide +kernel, by decide +kernel⟩, by decide⟩
set_option maxRecDepth 20000 in
theorem lb_X4_findingOf : LBt mX4_findingOf 3 := ⟨mT1 (List.mem_of_getElem? (i := 2) rfl) rfl, mT2 (List.mem_of_getElem? (i := 59) rfl) rfl, ⟨by decide +kernel, by decide +kernel, by decide +kernel⟩, by decide⟩
set_option maxRecDepth 20000 in
theorem lb_X4_isMissing : LBt mX4_isMissing 1 := ⟨mT1 (List.mem_of_getElem? (i := 2) rfl) rfl, mT2 (List.mem_of_getElem? (i := 63) rfl) rfl, ⟨by decide +kernel, by decide +kernel, by decide +kernel⟩, by decide⟩
set_option maxRecDepth 20000 in
theorem lb_X4_isSpan : LBt mX4_isSpan 3 := ⟨mT1 (List.mem_of_getElem? (i := 2) rfl) rfl, mT2 (List.mem_of_getElem? (i := 67) rfl) rfl, ⟨by decide +kernel, by decide +kernel, by decide +kernel⟩, by decide⟩
set_option maxRecDepth 20000 in
theorem lb_X4_put : LBt mX4_put 3 := ⟨mT1 (List.mem_of_getElem? (i := 2) rfl) rfl, mT2 (List.mem_of_getElem? (i := 71) rfl) rfl, ⟨by decide +kernel, by decide +kernel, by decide +kernel⟩, by decide⟩
set_option maxRecDepth 20000 in
theorem lb_X6_copy : LBt mX6_copy 5 := ⟨mT1 (List.mem_of_getElem? (i := 1) rfl) rfl, mT2 (List.mem_of_getElem? (i := 75) rfl) rfl, ⟨by decide +kernel, by decide +kernel, by decide +kernel⟩, by decide⟩
set_option maxRecDepth 20000 in
theorem lb_X4_findingOfMove : LBt mX4_findingOfMove 5 := ⟨mT1 (List.mem_of_getElem? (i := 2) rfl) rfl, mT2 (List.mem_of_getElem? (i := 79) rfl) rfl, ⟨by decide +kernel, by decide +kernel, by decide +kernel⟩, by decide⟩
set_option maxRecDepth 20000 in
theorem lb_X4_move : LBt mX4_move 5 := ⟨mT1 (List.mem_of_getElem? (i := 2) rfl) rfl, mT2 (List.mem_of_getElem? (i := 83) rfl) rfl, ⟨by decide +kernel, by decide +kernel, by decide +kernel⟩, by decide⟩
set_option maxRecDepth 20000 in
theorem lb_X6_drop : LBt mX6_drop 1 := ⟨mT1 (List.mem_of_getElem? (i := 1) rfl) rfl, mT2 (List.mem_of_getElem? (i := 90) rfl) rfl, ⟨by decide +kernel, by decide +kernel, by decide +kernel⟩, by decide⟩
set_option maxRecDepth 20000 in
theorem lb_X4_takeAway : LBt mX4_takeAway 1 := ⟨mT1 (List.mem_of_getElem? (i := 2) rfl) rfl, mT2 (List.mem_of_getElem? (i := 95) rfl) rfl, ⟨by decide +kernel, by decide +kernel, by decide +kernel⟩, by decide⟩
set_option maxRecDepth 20000 in
theorem lb_X6_feed : LBt mX6_feed 1 := ⟨mT1 (List.mem_of_getElem? (i := 1) rfl) rfl, mT2 (List.mem_of_getElem? (i := 99) rfl) rfl, ⟨by decide +kernel, by decide +kernel, by decide +kernel⟩, by decide⟩
set_option maxRecDepth 20000 in
theorem lb_X2_append : LBt mX2_append 1 := ⟨mT1 (List.mem_of_getElem? (i := 3) rfl) rfl, mT2 (List.mem_of_getElem? (i := 103) rfl) rfl, ⟨by decide +kernel, by decide +kernel, by decide +kernel⟩, by decide⟩
set_option maxRecDepth 20000 in
theorem lb_X6_town : LBt mX6_town 0 := ⟨mT1 (List.mem_of_getElem? (i := 1) rfl) rfl, mT2 (List.mem_of_getElem? (i := 108) rfl) rfl, ⟨by decide +kernel, by decide +kernel, by decide +kernel⟩, by decide⟩
set_option maxRecDepth 20000 in
theorem lb_X2_readAll : LBt mX2_readAll 0 := ⟨mT1 (List.mem_of_getElem? (i := 3) rfl) rfl, mT2 (List.mem_of_getElem? (i := 112) rfl) rfl, ⟨by decide +kernel, by decide +kernel, by decide +kernel⟩, by decide⟩
set_option maxRecDepth 20000 in
theorem lb_X2_readLaw : LBt mX2_readLaw 0 := ⟨mT1 (List.mem_of_getElem? (i := 3) rfl) rfl, mT2 (List.mem_of_getElem? (i := 116) rfl) rfl, ⟨by decide +kernel, by decide +kernel, by decide +kernel⟩, by decide⟩
set_option maxRecDepth 20000 in
theorem lb_X2_takeSign : LBt mX2_takeSign 1 := ⟨mT1 (List.mem_of_getElem? (i := 3) rfl) rfl, mT2 (List.mem_of_getElem? (i := 120) rfl) rfl, ⟨by decide +kernel, by decide +kernel, by decide +kernel⟩, by decide⟩
set_option maxRecDepth 20000 in
theorem lb_X2_nextByte : LBt mX2_nextByte 0 := ⟨mT1 (List.mem_of_getElem? (i := 3) rfl) rfl, mT2 (List.mem_of_getElem? (i := 124) rfl) rfl, ⟨by decide +kernel, by decide +kernel, by decide +kernel⟩, by decide⟩
set_option maxRecDepth 20000 in
theorem lb_X2_fail : LBt mX2_fail 1 := ⟨mT1 (List.mem_of_getElem? (i := 3) rfl) rfl, mT2 (List.mem_of_getElem? (i := 128) rfl) rfl, ⟨by decide +kernel, by decide +kernel, by decide +kernel⟩, by decide⟩
set_option maxRecDepth 20000 in
theorem lb_X2_takeNumber : LBt mX2_takeNumber 2 := ⟨mT1 (List.mem_of_getElem? (i := 3) rfl) rfl, mT2 (List.mem_of_getElem? (i := 132) rfl) rfl, ⟨by decide +kernel, by decide +kernel, by decide +kernel⟩, by decide⟩
set_option maxRecDepth 20000 in
theorem lb_X2_readChildren : LBt mX2_readChildren 0 := ⟨mT1 (List.mem_of_getElem? (i := 3) rfl) rfl, mT2 (List.mem_of_getElem? (i := 137) rfl) rfl, ⟨by decide +kernel, by decide +kernel, by decide +kernel⟩, by decide⟩
set_option maxRecDepth 20000 in
theorem lb_X2_readGrans : LBt mX2_readGrans 0 := ⟨mT1 (List.mem_of_getElem? (i := 3) rfl) rfl, mT2 (List.mem_of_getElem? (i := 141) rfl) rfl, ⟨by decide +kernel, by decide +kernel, by decide +kernel⟩, by decide⟩
set_option maxRecDepth 20000 in
theorem lb_X2_takeSort : LBt mX2_takeSort 0 := ⟨mT1 (List.mem_of_getElem? (i := 3) rfl) rfl, mT2 (List.mem_of_getElem? (i := 145) rfl) rfl, ⟨by decide +kernel, by decide +kernel, by decide +kernel⟩, by decide⟩
set_option maxRecDepth 20000 in
theorem lb_X2_sortOf : LBt mX2_sortOf 1 := ⟨mT1 (List.mem_of_getElem? (i := 3) rfl) rfl, mT2 (List.mem_of_getElem? (i := 148) rfl) rfl, ⟨by decide +kernel, by decide +kernel, by decide +kernel⟩, by decide⟩
set_option maxRecDepth 20000 in
theorem lb_X5_save : LBt mX5_save 1 := ⟨mT1 (List.mem_of_getElem? (i := 4) rfl) rfl, mT2 (List.mem_of_getElem? (i := 153) rfl) rfl, ⟨by decide +kernel, by decide +kernel, by decide +kernel⟩, by decide⟩
set_option maxRecDepth 20000 in
theorem lb_X5_load : LBt mX5_load 1 := ⟨mT1 (List.mem_of_getElem? (i := 4) rfl) rfl, mT2 (List.mem_of_getElem? (i := 157) rfl) rfl, ⟨by decide +kernel, by decide +kernel, by decide +kernel⟩, by decide⟩
set_option maxRecDepth 20000 in
theorem lb_X0_forget : LBt mX0_forget 0 := ⟨mT1 (List.mem_of_getElem? (i := 5) rfl) rfl, mT2 (List.mem_of_getElem? (i := 161) rfl) rfl, ⟨by decide +kernel, by decide +kernel, by decide +kernel⟩, by decide⟩
set_option maxRecDepth 20000 in
theorem lb_X6_fault : LBt mX6_fault 0 := ⟨mT1 (List.mem_of_getElem? (i := 1) rfl) rfl, mT2 (List.mem_of_getElem? (i := 165) rfl) rfl, ⟨by decide +kernel, by decide +kernel, by decide +kernel⟩, by decide⟩
set_option maxRecDepth 20000 in
theorem lb_X6_undo : LBt mX6_undo 0 := ⟨mT1 (List.mem_of_getElem? (i := 1) rfl) rfl, mT2 (List.mem_of_getElem? (i := 169) rfl) rfl, ⟨by decide +kernel, by decide +kernel, by decide +kernel⟩, by decide⟩
set_option maxRecDepth 20000 in
theorem lb_X0_takeBack : LBt mX0_takeBack 1 := ⟨mT1 (List.mem_of_getElem? (i := 5) rfl) rfl, mT2 (List.mem_of_getElem? (i := 173) rfl) rfl, ⟨by decide +kernel, by decide +kernel, by decide +kernel⟩, by decide⟩
set_option maxRecDepth 20000 in
theorem lb_X6_days : LBt mX6_days 1 := ⟨mT1 (List.mem_of_getElem? (i := 1) rfl) rfl, mT2 (List.mem_of_getElem? (i := 179) rfl) rfl, ⟨by decide +kernel, by decide +kernel, by decide +kernel⟩, by decide⟩
set_option maxRecDepth 20000 in
theorem lb_X6_noTown : LBt mX6_noTown 0 := ⟨mT1 (List.mem_of_getElem? (i := 1) rfl) rfl, mT2 (List.mem_of_getElem? (i := 183) rfl) rfl, ⟨by decide +kernel, by decide +kernel, by decide +kernel⟩, by decide⟩
set_option maxRecDepth 20000 in
theorem lb_X0_keep : LBt mX0_keep 1 := ⟨mT1 (List.mem_of_getElem? (i := 5) rfl) rfl, mT2 (List.mem_of_getElem? (i := 187) rfl) rfl, ⟨by decide +kernel, by decide +kernel, by decide +kernel⟩, by decide⟩
set_option maxRecDepth 20000 in
theorem lb_X5_passDay : LBt mX5_passDay 0 := ⟨mT1 (List.mem_of_getElem? (i := 4) rfl) rfl, mT2 (List.mem_of_getElem? (i := 192) rfl) rfl, ⟨by decide +kernel, by decide +kernel, by decide +kernel⟩, by decide⟩
set_option maxRecDepth 20000 in
theorem lb_X5_seat : LBt mX5_seat 1 := ⟨mT1 (List.mem_of_getElem? (i := 4) rfl) rfl, mT2 (List.mem_of_getElem? (i := 196) rfl) rfl, ⟨by decide +kernel, by decide +kernel, by decide +kernel⟩, by decide⟩
set_option maxRecDepth 20000 in
theorem lb_X5_hostOf : LBt mX5_hostOf 2 := ⟨mT1 (List.mem_of_getElem? (i := 4) rfl) rfl, mT2 (List.mem_of_getElem? (i := 200) rfl) rfl, ⟨by decide +kernel, by decide +kernel, by decide +kernel⟩, by decide⟩
set_option maxRecDepth 20000 in
theorem lb_X5_brings : LBt mX5_brings 1 := ⟨mT1 (List.mem_of_getElem? (i := 4) rfl) rfl, mT2 (List.mem_of_getElem? (i := 205) rfl) rfl, ⟨by decide +kernel, by decide +kernel, by decide +kernel⟩, by decide⟩
set_option maxRecDepth 20000 in
theorem lb_X5_visit : LBt mX5_visit 2 := ⟨mT1 (List.mem_of_getElem? (i := 4) rfl) rfl, mT2 (List.mem_of_getElem? (i := 209) rfl) rfl, ⟨by decide +kernel, by decide +kernel, by decide +kernel⟩, by decide⟩
set_option maxRecDepth 20000 in
theorem lb_X5_addFed : LBt mX5_addFed 2 := ⟨mT1 (List.mem_of_getElem? (i := 4) rfl) rfl, mT2 (List.mem_of_getElem? (i := 213) rfl) rfl, ⟨by decide +kernel, by decide +kernel, by decide +kernel⟩, by decide⟩
set_option maxRecDepth 20000 in
theorem lb_X5_addSpoilt : LBt mX5_addSpoilt 2 := ⟨mT1 (List.mem_of_getElem? (i := 4) rfl) rfl, mT2 (List.mem_of_getElem? (i := 223) rfl) rfl, ⟨by decide +kernel, by decide +kernel, by decide +kernel⟩, by decide⟩
set_option maxRecDepth 20000 in
theorem lb_X6_sick : LBt mX6_sick 2 := ⟨mT1 (List.mem_of_getElem? (i := 1) rfl) rfl, mT2 (List.mem_of_getElem? (i := 227) rfl) rfl, ⟨by decide +kernel, by decide +kernel, by decide +kernel⟩, by decide⟩
set_option maxRecDepth 20000 in
theorem lb_X5_hasGran : LBt mX5_hasGran 1 := ⟨mT1 (List.mem_of_getElem? (i := 4) rfl) rfl, mT2 (List.mem_of_getElem? (i := 231) rfl) rfl, ⟨by decide +kernel, by decide +kernel, by decide +kernel⟩, by decide⟩
set_option maxRecDepth 20000 in
theorem lb_X6_swap : LBt mX6_swap 2 := ⟨mT1 (List.mem_of_getElem? (i := 1) rfl) rfl, mT2 (List.mem_of_getElem? (i := 235) rfl) rfl, ⟨by decide +kernel, by decide +kernel, by decide +kernel⟩, by decide⟩
set_option maxRecDepth 20000 in
theorem lb_X5_hasChild : LBt mX5_hasChild 1 := ⟨mT1 (List.mem_of_getElem? (i := 4) rfl) rfl, mT2 (List.mem_of_getElem? (i := 239) rfl) rfl, ⟨by decide +kernel, by decide +kernel, by decide +kernel⟩, by decide⟩
set_option maxRecDepth 20000 in
theorem lb_X6_pace : LBt mX6_pace 2 := ⟨mT1 (List.mem_of_getElem? (i := 1) rfl) rfl, mT3 (List.mem_of_getElem? (i := 3) rfl) rfl, ⟨by decide +kernel, by decide +kernel, by decide +kernel⟩, by decide⟩
set_option maxRecDepth 20000 in
theorem lb_X6_quarrel : LBt mX6_quarrel 3 := ⟨mT1 (List.mem_of_getElem? (i := 1) rfl) rfl, mT3 (List.mem_of_getElem? (i := 7) rfl) rfl, ⟨by decide +kernel, by decide +kernel, by decide +kernel⟩, by decide⟩
set_option maxRecDepth 20000 in
theorem lb_X6_spoil : LBt mX6_spoil 2 := ⟨mT1 (List.mem_of_getElem? (i := 1) rfl) rfl, mT3 (List.mem_of_getElem? (i := 11) rfl) rfl, ⟨by decide +kernel, by decide +kernel, by decide +kernel⟩, by decide⟩
set_option maxRecDepth 20000 in
theorem lb_X6_gran : LBt mX6_gran 2 := ⟨mT1 (List.mem_of_getElem? (i := 1) rfl) rfl, mT3 (List.mem_of_getElem? (i := 16) rfl) rfl, ⟨by decide +kernel, by decide +kernel, by decide +kernel⟩, by decide⟩
set_option maxRecDepth 20000 in
theorem lb_X5_lostOn : LBt mX5_lostOn 1 := ⟨mT1 (List.mem_of_getElem? (i := 4) rfl) rfl, mT3 (List.mem_of_getElem? (i := 21) rfl) rfl, ⟨by decide +kernel, by decide +kernel, by decide +kernel⟩, by decide⟩
set_option maxRecDepth 20000 in
theorem lb_X6_child : LBt mX6_child 2 := ⟨mT1 (List.mem_of_getElem? (i := 1) rfl) rfl, mT3 (List.mem_of_getElem? (i := 25) rfl) rfl, ⟨by decide +kernel, by decide +kernel, by decide +kernel⟩, by decide⟩
set_option maxRecDepth 20000 in
theorem lb_X5_guestsOf : LBt mX5_guestsOf 1 := ⟨mT1 (List.mem_of_getElem? (i := 4) rfl) rfl, mT3 (List.mem_of_getElem? (i := 29) rfl) rfl, ⟨by decide +kernel, by decide +kernel, by decide +kernel⟩, by decide⟩
set_option maxRecDepth 20000 in
theorem lb_X6_ahead : LBt mX6_ahead 3 := ⟨mT1 (List.mem_of_getElem? (i := 1) rfl) rfl, mT3 (List.mem_of_getElem? (i := 33) rfl) rfl, ⟨by decide +kernel, by decide +kernel, by decide +kernel⟩, by decide⟩
set_option maxRecDepth 20000 in
theorem lb_X6_openTrial : LBt mX6_openTrial 0 := ⟨mT1 (List.mem_of_getElem? (i := 1) rfl) rfl, mT3 (List.mem_of_getElem? (i := 37) rfl) rfl, ⟨by decide +kernel, by decide +kernel, by decide +kernel⟩, by decide⟩
set_option maxRecDepth 20000 in
theorem lb_X5_passDays : LBt mX5_passDays 1 := ⟨mT1 (List.mem_of_getElem? (i := 4) rfl) rfl, mT3 (List.mem_of_getElem? (i := 41) rfl) rfl, ⟨by decide +kernel, by decide +kernel, by decide +kernel⟩, by decide⟩
set_option maxRecDepth 20000 in
theorem lb_X6_withWhom : LBt mX6_withWhom 2 := ⟨mT1 (List.mem_of_getElem? (i := 1) rfl) rfl, mT3 (List.mem_of_getElem? (i := 46) rfl) rfl, ⟨by decide +kernel, by decide +kernel, by decide +kernel⟩, by decide⟩
set_option maxRecDepth 20000 in
theorem lb_X6_whole : LBt mX6_whole 1 := ⟨mT1 (List.mem_of_getElem? (i := 1) rfl) rfl, mT3 (List.mem_of_getElem? (i := 50) rfl) rfl, ⟨by decide +kernel, by decide +kernel, by decide +kernel⟩, by decide⟩
set_option maxRecDepth 20000 in
theorem lb_X5_daysToWhole : LBt mX5_daysToWhole 1 := ⟨mT1 (List.mem_of_getElem? (i := 4) rfl) rfl, mT3 (List.mem_of_getElem? (i := 54) rfl) rfl, ⟨by decide +kernel, by decide +kernel, by decide +kernel⟩, by decide⟩
set_option maxRecDepth 20000 in
theorem lb_X6_hungry : LBt mX6_hungry 1 := ⟨mT1 (List.mem_of_getElem? (i := 1) rfl) rfl, mT3 (List.mem_of_getElem? (i := 58) rfl) rfl, ⟨by decide +kernel, by decide +kernel, by decide +kernel⟩, by decide⟩
set_option maxRecDepth 20000 in
theorem lb_X6_without : LBt mX6_without 1 := ⟨mT1 (List.mem_of_getElem? (i := 1) rfl) rfl, mT3 (List.mem_of_getElem? (i := 63) rfl) rfl, ⟨by decide +kernel, by decide +kernel, by decide +kernel⟩, by decide⟩
set_option maxRecDepth 20000 in
theorem lb_X5_allChildren : LBt mX5_allChildren 0 := ⟨mT1 (List.mem_of_getElem? (i := 4) rfl) rfl, mT3 (List.mem_of_getElem? (i := 67) rfl) rfl, ⟨by decide +kernel, by decide +kernel, by decide +kernel⟩, by decide⟩
set_option maxRecDepth 20000 in
theorem lb_X5_servedIn : LBt mX5_servedIn 1 := ⟨mT1 (List.mem_of_getElem? (i := 4) rfl) rfl, mT3 (List.mem_of_getElem? (i := 71) rfl) rfl, ⟨by decide +kernel, by decide +kernel, by decide +kernel⟩, by decide⟩
set_option maxRecDepth 20000 in
theorem lb_X5_servedOn : LBt mX5_servedOn 1 := ⟨mT1 (List.mem_of_getElem? (i := 4) rfl) rfl, mT3 (List.mem_of_getElem? (i := 75) rfl) rfl, ⟨by decide +kernel, by decide +kernel, by decide +kernel⟩, by decide⟩
set_option maxRecDepth 20000 in
theorem lb_X6_rota : LBt mX6_rota 3 := ⟨mT1 (List.mem_of_getElem? (i := 1) rfl) rfl, mT3 (List.mem_of_getElem? (i := 79) rfl) rfl, ⟨by decide +kernel, by decide +kernel, by decide +kernel⟩, by decide⟩
set_option maxRecDepth 20000 in
theorem lb_X3_fewestChanges : LBt mX3_fewestChanges 3 := ⟨mT1 (List.mem_of_getElem? (i := 7) rfl) rfl, mT3 (List.mem_of_getElem? (i := 83) rfl) rfl, ⟨by decide +kernel, by decide +kernel, by decide +kernel⟩, by decide⟩
set_option maxRecDepth 20000 in
theorem lb_X3_longestIll : LBt mX3_longestIll 0 := ⟨mT1 (List.mem_of_getElem? (i := 7) rfl) rfl, mT3 (List.mem_of_getElem? (i := 88) rfl) rfl, ⟨by decide +kernel, by decide +kernel, by decide +kernel⟩, by decide⟩
set_option maxRecDepth 20000 in
theorem lb_X3_noteReach : LBt mX3_noteReach 0 := ⟨mT1 (List.mem_of_getElem? (i := 7) rfl) rfl, mT3 (List.mem_of_getElem? (i := 94) rfl) rfl, ⟨by decide +kernel, by decide +kernel, by decide +kernel⟩, by decide⟩
set_option maxRecDepth 20000 in
theorem lb_X3_visited : LBt mX3_visited 1 := ⟨mT1 (List.mem_of_getElem? (i := 7) rfl) rfl, mT3 (List.mem_of_getElem? (i := 98) rfl) rfl, ⟨by decide +kernel, by decide +kernel, by decide +kernel⟩, by decide⟩
set_option maxRecDepth 20000 in
theorem lb_X3_place : LBt mX3_place 3 := ⟨mT1 (List.mem_of_getElem? (i := 7) rfl) rfl, mT3 (List.mem_of_getElem? (i := 104) rfl) rfl, ⟨by decide +kernel, by decide +kernel, by decide +kernel⟩, by decide⟩
set_option maxRecDepth 20000 in
theorem lb_X6_meets : LBt mX6_meets 2 := ⟨mT1 (List.mem_of_getElem? (i := 1) rfl) rfl, mT3 (List.mem_of_getElem? (i := 109) rfl) rfl, ⟨by decide +kernel, by decide +kernel, by decide +kernel⟩, by decide⟩
set_option maxRecDepth 20000 in
theorem lb_X6_lost : LBt mX6_lost 1 := ⟨mT1 (List.mem_of_getElem? (i := 1) rfl) rfl, mT3 (List.mem_of_getElem? (i := 113) rfl) rfl, ⟨by decide +kernel, by decide +kernel, by decide +kernel⟩, by decide⟩
set_option maxRecDepth 20000 in
theorem lb_J6_bitCount_0f7a4 : LBt mJ6_bitCount_0f7a4 1 := ⟨mT1 (List.mem_of_getElem? (i := 11) rfl) rfl, mT3 (List.mem_of_getElem? (i := 116) rfl) rfl, ⟨by decide +kernel, by decide +kernel, by decide +kernel⟩, by decide⟩
set_option maxRecDepth 20000 in
theorem lb_X6_swaps : LBt mX6_swaps 2 := ⟨mT1 (List.mem_of_getElem? (i := 1) rfl) rfl, mT3 (List.mem_of_getElem? (i := 123) rfl) rfl, ⟨by decide +kernel, by decide +kernel, by decide +kernel⟩, by decide⟩
set_option maxRecDepth 20000 in
theorem lb_X6_isGoodSwap : LBt mX6_isGoodSwap 3 := ⟨mT1 (List.mem_of_getElem? (i := 1) rfl) rfl, mT3 (List.mem_of_getElem? (i := 128) rfl) rfl, ⟨by decide +kernel, by decide +kernel, by decide +kernel⟩, by decide⟩
set_option maxRecDepth 20000 in
theorem lb_X6_soon : LBt mX6_soon 2 := ⟨mT1 (List.mem_of_getElem? (i := 1) rfl) rfl, mT3 (List.mem_of_getElem? (i := 132) rfl) rfl, ⟨by decide +kernel, by decide +kernel, by decide +kernel⟩, by decide⟩
set_option maxRecDepth 20000 in
theorem lb_X6_who : LBt mX6_who 5 := ⟨mT1 (List.mem_of_getElem? (i := 1) rfl) rfl, mT3 (List.mem_of_getElem? (i := 136) rfl) rfl, ⟨by decide +kernel, by decide +kernel, by decide +kernel⟩, by decide⟩
set_option maxRecDepth 20000 in
theorem lb_X6_refusalOfTold : LBt mX6_refusalOfTold 5 := ⟨mT1 (List.mem_of_getElem? (i := 1) rfl) rfl, mT3 (List.mem_of_getElem? (i := 140) rfl) rfl, ⟨by decide +kernel, by decide +kernel, by decide +kernel⟩, by decide⟩
set_option maxRecDepth 20000 in
theorem lb_X6_isFedAsTold : LBt mX6_isFedAsTold 4 := ⟨mT1 (List.mem_of_getElem? (i := 1) rfl) rfl, mT3 (List.mem_of_getElem? (i := 144) rfl) rfl, ⟨by decide +kernel, by decide +kernel, by decide +kernel⟩, by decide⟩
set_option maxRecDepth 20000 in
theorem lb_X4_itemAt : LBt mX4_itemAt 2 := ⟨mT1 (List.mem_of_getElem? (i := 2) rfl) rfl, mT3 (List.mem_of_getElem? (i := 148) rfl) rfl, ⟨by decide +kernel, by decide +kernel, by decide +kernel⟩, by decide⟩
set_option maxRecDepth 20000 in
theorem lb_X6_firsts : LBt mX6_firsts 5 := ⟨mT1 (List.mem_of_getElem? (i := 1) rfl) rfl, mT3 (List.mem_of_getElem? (i := 152) rfl) rfl, ⟨by decide +kernel, by decide +kernel, by decide +kernel⟩, by decide⟩
set_option maxRecDepth 20000 in
theorem lb_X6_steps : LBt mX6_steps 5 := ⟨mT1 (List.mem_of_getElem? (i := 1) rfl) rfl, mT3 (List.mem_of_getElem? (i := 156) rfl) rfl, ⟨by decide +kernel, by decide +kernel, by decide +kernel⟩, by decide⟩
set_option maxRecDepth 20000 in
theorem lb_X6_even : LBt mX6_even 1 := ⟨mT1 (List.mem_of_getElem? (i := 1) rfl) rfl, mT3 (List.mem_of_getElem? (i := 160) rfl) rfl, ⟨by decide +kernel, by decide +kernel, by decide +kernel⟩, by decide⟩
set_option maxRecDepth 20000 in
theorem lb_X6_fever : LBt mX6_fever 3 := ⟨mT1 (List.mem_of_getElem? (i := 1) rfl) rfl, mT3 (List.mem_of_getElem? (i := 166) rfl) rfl, ⟨by decide +kernel, by decide +kernel, by decide +kernel⟩, by decide⟩
set_option maxRecDepth 20000 in
theorem lb_X6_power : LBt mX6_power 2 := ⟨mT1 (List.mem_of_getElem? (i := 1) rfl) rfl, mT3 (List.mem_of_getElem? (i := 170) rfl) rfl, ⟨by decide +kernel, by decide +kernel, by decide +kernel⟩, by decide⟩
set_option maxRecDepth 20000 in
theorem lb_X5_hasPeaceful : LBt mX5_hasPeaceful 1 := ⟨mT1 (List.mem_of_getElem? (i := 4) rfl) rfl, mT3 (List.mem_of_getElem? (i := 174) rfl) rfl, ⟨by decide +kernel, by decide +kernel, by decide +kernel⟩, by decide⟩
set_option maxRecDepth 20000 in
theorem lb_X6_commonDivisor : LBt mX6_commonDivisor 2 := ⟨mT1 (List.mem_of_getElem? (i := 1) rfl) rfl, mT3 (List.mem_of_getElem? (i := 177) rfl) rfl, ⟨by decide +kernel, by decide +kernel, by decide +kernel⟩, by decide⟩
set_option maxRecDepth 20000 in
theorem lb_X6_drawn : LBt mX6_drawn 3 := ⟨mT1 (List.mem_of_getElem? (i := 1) rfl) rfl, mT3 (List.mem_of_getElem? (i := 184) rfl) rfl, ⟨by decide +kernel, by decide +kernel, by decide +kernel⟩, by decide⟩
set_option maxRecDepth 20000 in
theorem lb_X5_fallIll : LBt mX5_fallIll 1 := ⟨mT1 (List.mem_of_getElem? (i := 4) rfl) rfl, mT3 (List.mem_of_getElem? (i := 192) rfl) rfl, ⟨by decide +kernel, by decide +kernel, by decide +kernel⟩, by decide⟩
set_option maxRecDepth 20000 in
theorem lb_X5_sumOf : LBt mX5_sumOf 2 := ⟨mT1 (List.mem_of_getElem? (i := 4) rfl) rfl, mT3 (List.mem_of_getElem? (i := 196) rfl) rfl, ⟨by decide +kernel, by decide +kernel, by decide +kernel⟩, by decide⟩
set_option maxRecDepth 20000 in
theorem lb_X6_image : LBt mX6_image 1 := ⟨mT1 (List.mem_of_getElem? (i := 1) rfl) rfl, mT3 (List.mem_of_getElem? (i := 200) rfl) rfl, ⟨by decide +kernel, by decide +kernel, by decide +kernel⟩, by decide⟩
set_option maxRecDepth 20000 in
theorem lb_X6_restore : LBt mX6_restore 1 := ⟨mT1 (List.mem_of_getElem? (i := 1) rfl) rfl, mT3 (List.mem_of_getElem? (i := 204) rfl) rfl, ⟨by decide +kernel, by decide +kernel, by decide +kernel⟩, by decide⟩
set_option maxRecDepth 20000 in
theorem lb_X6_kind : LBt mX6_kind 1 := ⟨mT1 (List.mem_of_getElem? (i := 1) rfl) rfl, mT3 (List.mem_of_getElem? (i := 208) rfl) rfl, ⟨by decide +kernel, by decide +kernel, by decide +kernel⟩, by decide⟩
set_option maxRecDepth 20000 in
theorem lb_X6_as : LBt mX6_as 2 := ⟨mT1 (List.mem_of_getElem? (i := 1) rfl) rfl, mT3 (List.mem_of_getElem? (i := 212) rfl) rfl, ⟨by decide +kernel, by decide +kernel, by decide +kernel⟩, by decide⟩
set_option maxRecDepth 20000 in
theorem lb_X6_isOfKind : LBt mX6_isOfKind 2 := ⟨mT1 (List.mem_of_getElem? (i := 1) rfl) rfl, mT3 (List.mem_of_getElem? (i := 215) rfl) rfl, ⟨by decide +kernel, by decide +kernel, by decide +kernel⟩, by decide⟩
set_option maxRecDepth 20000 in
theorem lb_X6_ask : LBt mX6_ask 2 := ⟨mT1 (List.mem_of_getElem? (i := 1) rfl) rfl, mT3 (List.mem_of_getElem? (i := 221) rfl) rfl, ⟨by decide +kernel, by decide +kernel, by decide +kernel⟩, by decide⟩
set_option maxRecDepth 20000 in
theorem lb_X1_turnTo : LBt mX1_turnTo 2 := ⟨mT1 (List.mem_of_getElem? (i := 6) rfl) rfl, mT3 (List.mem_of_getElem? (i := 225) rfl) rfl, ⟨by decide +kernel, by decide +kernel, by decide +kernel⟩, by decide⟩
set_option maxRecDepth 20000 in
theorem lb_X1_sizeAsked : LBt mX1_sizeAsked 0 := ⟨mT1 (List.mem_of_getElem? (i := 6) rfl) rfl, mT3 (List.mem_of_getElem? (i := 229) rfl) rfl, ⟨by decide +kernel, by decide +kernel, by decide +kernel⟩, by decide⟩
set_option maxRecDepth 20000 in
theorem lb_X1_begin : LBt mX1_begin 1 := ⟨mT1 (List.mem_of_getElem? (i := 6) rfl) rfl, mT3 (List.mem_of_getElem? (i := 233) rfl) rfl, ⟨by decide +kernel, by decide +kernel, by decide +kernel⟩, by decide⟩
set_option maxRecDepth 20000 in
theorem lb_X1_sizeOfSoup : LBt mX1_sizeOfSoup 0 := ⟨mT1 (List.mem_of_getElem? (i := 6) rfl) rfl, mT3 (List.mem_of_getElem? (i := 237) rfl) rfl, ⟨by decide +kernel, by decide +kernel, by decide +kernel⟩, by decide⟩
set_option maxRecDepth 20000 in
theorem lb_X1_sizeLent : LBt mX1_sizeLent 0 := ⟨mT1 (List.mem_of_getElem? (i := 6) rfl) rfl, mT4 (List.mem_of_getElem? (i := 1) rfl) rfl, ⟨by decide +kernel, by decide +kernel, by decide +kernel⟩, by decide⟩
set_option maxRecDepth 20000 in
theorem lb_X1_markOfSoup : LBt mX1_markOfSoup 0 := ⟨mT1 (List.mem_of_getElem? (i := 6) rfl) rfl, mT4 (List.mem_of_getElem? (i := 5) rfl) rfl, ⟨by decide +kernel, by decide +kernel, by decide +kernel⟩, by decide⟩
set_option maxRecDepth 20000 in
theorem lb_X1_markOfAnySoup : LBt mX1_markOfAnySoup 0 := ⟨mT1 (List.mem_of_getElem? (i := 6) rfl) rfl, mT4 (List.mem_of_getElem? (i := 9) rfl) rfl, ⟨by decide +kernel, by decide +kernel, by decide +kernel⟩, by decide⟩
set_option maxRecDepth 20000 in
theorem lb_X1_markLent : LBt mX1_markLent 0 := ⟨mT1 (List.mem_of_getElem? (i := 6) rfl) rfl, mT4 (List.mem_of_getElem? (i := 13) rfl) rfl, ⟨by decide +kernel, by decide +kernel, by decide +kernel⟩, by decide⟩
set_option maxRecDepth 20000 in
theorem lb_X1_sizeOfStern : LBt mX1_sizeOfStern 0 := ⟨mT1 (List.mem_of_getElem? (i := 6) rfl) rfl, mT4 (List.mem_of_getElem? (i := 18) rfl) rfl, ⟨by decide +kernel, by decide +kernel, by decide +kernel⟩, by decide⟩
set_option maxRecDepth 20000 in
theorem lb_X1_sizeOfAnyStern : LBt mX1_sizeOfAnyStern 0 := ⟨mT1 (List.mem_of_getElem? (i := 6) rfl) rfl, mT4 (List.mem_of_getElem? (i := 22) rfl) rfl, ⟨by decide +kernel, by decide +kernel, by decide +kernel⟩, by decide⟩
set_option maxRecDepth 20000 in
theorem lb_X1_markAsked : LBt mX1_markAsked 0 := ⟨mT1 (List.mem_of_getElem? (i := 6) rfl) rfl, mT4 (List.mem_of_getElem? (i := 26) rfl) rfl, ⟨by decide +kernel, by decide +kernel, by decide +kernel⟩, by decide⟩
set_option maxRecDepth 20000 in
theorem lb_X1_markOfStern : LBt mX1_markOfStern 0 := ⟨mT1 (List.mem_of_getElem? (i := 6) rfl) rfl, mT4 (List.mem_of_getElem? (i := 30) rfl) rfl, ⟨by decide +kernel, by decide +kernel, by decide +kernel⟩, by decide⟩
set_option maxRecDepth 20000 in
theorem lb_X6_trace : LBt mX6_trace 1 := ⟨mT1 (List.mem_of_getElem? (i := 1) rfl) rfl, mT4 (List.mem_of_getElem? (i := 34) rfl) rfl, ⟨by decide +kernel, by decide +kernel, by decide +kernel⟩, by decide⟩
set_option maxRecDepth 20000 in
theorem lb_X6_count : LBt mX6_count 1 := ⟨mT1 (List.mem_of_getElem? (i := 1) rfl) rfl, mT4 (List.mem_of_getElem? (i := 38) rfl) rfl, ⟨by decide +kernel, by decide +kernel, by decide +kernel⟩, by decide⟩
set_option maxRecDepth 20000 in
theorem lb_X4_rowsThere : LBt mX4_rowsThere 0 := ⟨mT1 (List.mem_of_getElem? (i := 2) rfl) rfl, mT4 (List.mem_of_getElem? (i := 42) rfl) rfl, ⟨by decide +kernel, by decide +kernel, by decide +kernel⟩, by decide⟩
set_option maxRecDepth 20000 in
theorem lb_X6_status : LBt mX6_status 0 := ⟨mT1 (List.mem_of_getElem? (i := 1) rfl) rfl, mT4 (List.mem_of_getElem? (i := 46) rfl) rfl, ⟨by decide +kernel, by decide +kernel, by decide +kernel⟩, by decide⟩
set_option maxRecDepth 20000 in
theorem lb_X7_init : LBt mX7_init 0 := ⟨mT1 (List.mem_of_getElem? (i := 8) rfl) rfl, mT4 (List.mem_of_getElem? (i := 51) rfl) rfl, ⟨by decide +kernel, by decide +kernel, by decide +kernel⟩, by decide⟩
set_option maxRecDepth 20000 in
theorem lb_X7_row : LBt mX7_row 3 := ⟨mT1 (List.mem_of_getElem? (i := 8) rfl) rfl, mT4 (List.mem_of_getElem? (i := 114) rfl) rfl, ⟨by decide +kernel, by decide +kernel, by decide +kernel⟩, by decide⟩
set_option maxRecDepth 20000 in
theorem lb_X7_isRow : LBt mX7_isRow 1 := ⟨mT1 (List.mem_of_getElem? (i := 8) rfl) rfl, mT4 (List.mem_of_getElem? (i := 117) rfl) rfl, ⟨by decide +kernel, by decide +kernel, by decide +kernel⟩, by decide⟩
set_option maxRecDepth 20000 in
theorem lb_X7_in : LBt mX7_in 3 := ⟨mT1 (List.mem_of_getElem? (i := 8) rfl) rfl, mT4 (List.mem_of_getElem? (i := 121) rfl) rfl, ⟨by decide +kernel, by decide +kernel, by decide +kernel⟩, by decide⟩
set_option maxRecDepth 20000 in
theorem lb_X7_find : LBt mX7_find 1 := ⟨mT1 (List.mem_of_getElem? (i := 8) rfl) rfl, mT4 (List.mem_of_getElem? (i := 127) rfl) rfl, ⟨by decide +kernel, by decide +kernel, by decide +kernel⟩, by decide⟩
set_option maxRecDepth 20000 in
theorem lb_X7_well : LBt mX7_well 1 := ⟨mT1 (List.mem_of_getElem? (i := 8) rfl) rfl, mT4 (List.mem_of_getElem? (i := 132) rfl) rfl, ⟨by decide +kernel, by decide +kernel, by decide +kernel⟩, by decide⟩
set_option maxRecDepth 20000 in
theorem lb_X7_set : LBt mX7_set 3 := ⟨mT1 (List.mem_of_getElem? (i := 8) rfl) rfl, mT4 (List.mem_of_getElem? (i := 136) rfl) rfl, ⟨by decide +kernel, by decide +kernel, by decide +kernel⟩, by decide⟩
set_option maxRecDepth 20000 in
theorem lb_X7_narrow : LBt mX7_narrow 2 := ⟨mT1 (List.mem_of_getElem? (i := 8) rfl) rfl, mT4 (List.mem_of_getElem? (i := 139) rfl) rfl, ⟨by decide +kernel, by decide +kernel, by decide +kernel⟩, by decide⟩
set_option maxRecDepth 20000 in
theorem lb_X7_copy : LBt mX7_copy 5 := ⟨mT1 (List.mem_of_getElem? (i := 8) rfl) rfl, mT4 (List.mem_of_getElem? (i := 143) rfl) rfl, ⟨by decide +kernel, by decide +kernel, by decide +kernel⟩, by decide⟩
set_option maxRecDepth 20000 in
theorem lb_X7_isSpan : LBt mX7_isSpan 3 := ⟨mT1 (List.mem_of_getElem? (i := 8) rfl) rfl, mT4 (List.mem_of_getElem? (i := 147) rfl) rfl, ⟨by decide +kernel, by decide +kernel, by decide +kernel⟩, by decide⟩
set_option maxRecDepth 20000 in
theorem lb_X7_drop : LBt mX7_drop 1 := ⟨mT1 (List.mem_of_getElem? (i := 8) rfl) rfl, mT4 (List.mem_of_getElem? (i := 151) rfl) rfl, ⟨by decide +kernel, by decide +kernel, by decide +kernel⟩, by decide⟩
set_option maxRecDepth 20000 in
theorem lb_X7_feed : LBt mX7_feed 1 := ⟨mT1 (List.mem_of_getElem? (i := 8) rfl) rfl, mT4 (List.mem_of_getElem? (i := 155) rfl) rfl, ⟨by decide +kernel, by decide +kernel, by decide +kernel⟩, by decide⟩
set_option maxRecDepth 20000 in
theorem lb_X7_town : LBt mX7_town 0 := ⟨mT1 (List.mem_of_getElem? (i := 8) rfl) rfl, mT4 (List.mem_of_getElem? (i := 161) rfl) rfl, ⟨by decide +kernel, by decide +kernel, by decide +kernel⟩, by decide⟩
set_option maxRecDepth 20000 in
theorem lb_X7_reads : LBt mX7_reads 0 := ⟨mT1 (List.mem_of_getElem? (i := 8) rfl) rfl, mT4 (List.mem_of_getElem? (i := 165) rfl) rfl, ⟨by decide +kernel, by decide +kernel, by decide +kernel⟩, by decide⟩
set_option maxRecDepth 20000 in
theorem lb_X7_readsLaw : LBt mX7_readsLaw 0 := ⟨mT1 (List.mem_of_getElem? (i := 8) rfl) rfl, mT4 (List.mem_of_getElem? (i := 169) rfl) rfl, ⟨by decide +kernel, by decide +kernel, by decide +kernel⟩, by decide⟩
set_option maxRecDepth 20000 in
theorem lb_X7_sign : LBt mX7_sign 1 := ⟨mT1 (List.mem_of_getElem? (i := 8) rfl) rfl, mT4 (List.mem_of_getElem? (i := 173) rfl) rfl, ⟨by decide +kernel, by decide +kernel, by decide +kernel⟩, by decide⟩
set_option maxRecDepth 20000 in
theorem lb_X7_isLetter : LBt mX7_isLetter 1 := ⟨mT1 (List.mem_of_getElem? (i := 8) rfl) rfl, mT4 (List.mem_of_getElem? (i := 177) rfl) rfl, ⟨by decide +kernel, by decide +kernel, by decide +kernel⟩, by decide⟩
set_option maxRecDepth 20000 in
theorem lb_X7_refuse : LBt mX7_refuse 1 := ⟨mT1 (List.mem_of_getElem? (i := 8) rfl) rfl, mT4 (List.mem_of_getElem? (i := 181) rfl) rfl, ⟨by decide +kernel, by decide +kernel, by decide +kernel⟩, by decide⟩
set_option maxRecDepth 20000 in
theorem lb_X7_readsNumber : LBt mX7_readsNumber 2 := ⟨mT1 (List.mem_of_getElem? (i := 8) rfl) rfl, mT4 (List.mem_of_getElem? (i := 185) rfl) rfl, ⟨by decide +kernel, by decide +kernel, by decide +kernel⟩, by decide⟩
set_option maxRecDepth 20000 in
theorem lb_X7_isFigure : LBt mX7_isFigure 1 := ⟨mT1 (List.mem_of_getElem? (i := 8) rfl) rfl, mT4 (List.mem_of_getElem? (i := 189) rfl) rfl, ⟨by decide +kernel, by decide +kernel, by decide +kernel⟩, by decide⟩
set_option maxRecDepth 20000 in
theorem lb_X7_readsChild : LBt mX7_readsChild 0 := ⟨mT1 (List.mem_of_getElem? (i := 8) rfl) rfl, mT4 (List.mem_of_getElem? (i := 195) rfl) rfl, ⟨by decide +kernel, by decide +kernel, by decide +kernel⟩, by decide⟩
set_option maxRecDepth 20000 in
theorem lb_X7_isSort : LBt mX7_isSort 0 := ⟨mT1 (List.mem_of_getElem? (i := 8) rfl) rfl, mT4 (List.mem_of_getElem? (i := 199) rfl) rfl, ⟨by decide +kernel, by decide +kernel, by decide +kernel⟩, by decide⟩
set_option maxRecDepth 20000 in
theorem lb_X7_kindOfLetter : LBt mX7_kindOfLetter 1 := ⟨mT1 (List.mem_of_getElem? (i := 8) rfl) rfl, mT4 (List.mem_of_getElem? (i := 202) rfl) rfl, ⟨by decide +kernel, by decide +kernel, by decide +kernel⟩, by decide⟩
set_option maxRecDepth 20000 in
theorem lb_X7_readsGran : LBt mX7_readsGran 0 := ⟨mT1 (List.mem_of_getElem? (i := 8) rfl) rfl, mT4 (List.mem_of_getElem? (i := 206) rfl) rfl, ⟨by decide +kernel, by decide +kernel, by decide +kernel⟩, by decide⟩
set_option maxRecDepth 20000 in
theorem lb_X7_copyTown : LBt mX7_copyTown 2 := ⟨mT1 (List.mem_of_getElem? (i := 8) rfl) rfl, mT4 (List.mem_of_getElem? (i := 211) rfl) rfl, ⟨by decide +kernel, by decide +kernel, by decide +kernel⟩, by decide⟩
set_option maxRecDepth 20000 in
theorem lb_X7_fault : LBt mX7_fault 0 := ⟨mT1 (List.mem_of_getElem? (i := 8) rfl) rfl, mT4 (List.mem_of_getElem? (i := 215) rfl) rfl, ⟨by decide +kernel, by decide +kernel, by decide +kernel⟩, by decide⟩
set_option maxRecDepth 20000 in
theorem lb_X7_undo : LBt mX7_undo 0 := ⟨mT1 (List.mem_of_getElem? (i := 8) rfl) rfl, mT4 (List.mem_of_getElem? (i := 219) rfl) rfl, ⟨by decide +kernel, by decide +kernel, by decide +kernel⟩, by decide⟩
set_option maxRecDepth 20000 in
theorem lb_X7_days : LBt mX7_days 1 := ⟨mT1 (List.mem_of_getElem? (i := 8) rfl) rfl, mT4 (List.mem_of_getElem? (i := 224) rfl) rfl, ⟨by decide +kernel, by decide +kernel, by decide +kernel⟩, by decide⟩
set_option maxRecDepth 20000 in
theorem lb_X7_keepPast : LBt mX7_keepPast 0 := ⟨mT1 (List.mem_of_getElem? (i := 8) rfl) rfl, mT4 (List.mem_of_getElem? (i := 229) rfl) rfl, ⟨by decide +kernel, by decide +kernel, by decide +kernel⟩, by decide⟩
set_option maxRecDepth 20000 in
theorem lb_X7_pass : LBt mX7_pass 1 := ⟨mT1 (List.mem_of_getElem? (i := 8) rfl) rfl, mT4 (List.mem_of_getElem? (i := 233) rfl) rfl, ⟨by decide +kernel, by decide +kernel, by decide +kernel⟩, by decide⟩
set_option maxRecDepth 20000 in
theorem lb_X7_withOf : LBt mX7_withOf 2 := ⟨mT1 (List.mem_of_getElem? (i := 8) rfl) rfl, mT4 (List.mem_of_getElem? (i := 237) rfl) rfl, ⟨by decide +kernel, by decide +kernel, by decide +kernel⟩, by decide⟩
set_option maxRecDepth 20000 in
theorem lb_X7_isLost : LBt mX7_isLost 2 := ⟨mT1 (List.mem_of_getElem? (i := 8) rfl) rfl, mT5 (List.mem_of_getElem? (i := 2) rfl) rfl, ⟨by decide +kernel, by decide +kernel, by decide +kernel⟩, by decide⟩
set_option maxRecDepth 20000 in
theorem lb_X7_has : LBt mX7_has 2 := ⟨mT1 (List.mem_of_getElem? (i := 8) rfl) rfl, mT5 (List.mem_of_getElem? (i := 5) rfl) rfl, ⟨by decide +kernel, by decide +kernel, by decide +kernel⟩, by decide⟩
set_option maxRecDepth 20000 in
theorem lb_X7_brings : LBt mX7_brings 3 := ⟨mT1 (List.mem_of_getElem? (i := 8) rfl) rfl, mT5 (List.mem_of_getElem? (i := 9) rfl) rfl, ⟨by decide +kernel, by decide +kernel, by decide +kernel⟩, by decide⟩
set_option maxRecDepth 20000 in
theorem lb_X7_feeds : LBt mX7_feeds 3 := ⟨mT1 (List.mem_of_getElem? (i := 8) rfl) rfl, mT5 (List.mem_of_getElem? (i := 13) rfl) rfl, ⟨by decide +kernel, by decide +kernel, by decide +kernel⟩, by decide⟩
set_option maxRecDepth 20000 in
theorem lb_X7_between : LBt mX7_between 2 := ⟨mT1 (List.mem_of_getElem? (i := 8) rfl) rfl, mT5 (List.mem_of_getElem? (i := 16) rfl) rfl, ⟨by decide +kernel, by decide +kernel, by decide +kernel⟩, by decide⟩
set_option maxRecDepth 20000 in
theorem lb_X7_spoils : LBt mX7_spoils 3 := ⟨mT1 (List.mem_of_getElem? (i := 8) rfl) rfl, mT5 (List.mem_of_getElem? (i := 20) rfl) rfl, ⟨by decide +kernel, by decide +kernel, by decide +kernel⟩, by decide⟩
set_option maxRecDepth 20000 in
theorem lb_X7_sick : LBt mX7_sick 2 := ⟨mT1 (List.mem_of_getElem? (i := 8) rfl) rfl, mT5 (List.mem_of_getElem? (i := 24) rfl) rfl, ⟨by decide +kernel, by decide +kernel, by decide +kernel⟩, by decide⟩
set_option maxRecDepth 20000 in
theorem lb_X7_isGran : LBt mX7_isGran 1 := ⟨mT1 (List.mem_of_getElem? (i := 8) rfl) rfl, mT5 (List.mem_of_getElem? (i := 28) rfl) rfl, ⟨by decide +kernel, by decide +kernel, by decide +kernel⟩, by decide⟩
set_option maxRecDepth 20000 in
theorem lb_X7_put : LBt mX7_put 2 := ⟨mT1 (List.mem_of_getElem? (i := 8) rfl) rfl, mT5 (List.mem_of_getElem? (i := 33) rfl) rfl, ⟨by decide +kernel, by decide +kernel, by decide +kernel⟩, by decide⟩
set_option maxRecDepth 20000 in
theorem lb_X7_swap : LBt mX7_swap 2 := ⟨mT1 (List.mem_of_getElem? (i := 8) rfl) rfl, mT5 (List.mem_of_getElem? (i := 37) rfl) rfl, ⟨by decide +kernel, by decide +kernel, by decide +kernel⟩, by decide⟩
set_option maxRecDepth 20000 in
theorem lb_X7_isChild : LBt mX7_isChild 1 := ⟨mT1 (List.mem_of_getElem? (i := 8) rfl) rfl, mT5 (List.mem_of_getElem? (i := 41) rfl) rfl, ⟨by decide +kernel, by decide +kernel, by decide +kernel⟩, by decide⟩
set_option maxRecDepth 20000 in
theorem lb_X7_pace : LBt mX7_pace 2 := ⟨mT1 (List.mem_of_getElem? (i := 8) rfl) rfl, mT5 (List.mem_of_getElem? (i := 45) rfl) rfl, ⟨by decide +kernel, by decide +kernel, by decide +kernel⟩, by decide⟩
set_option maxRecDepth 20000 in
theorem lb_X7_quarrel : LBt mX7_quarrel 3 := ⟨mT1 (List.mem_of_getElem? (i := 8) rfl) rfl, mT5 (List.mem_of_getElem? (i := 50) rfl) rfl, ⟨by decide +kernel, by decide +kernel, by decide +kernel⟩, by decide⟩
set_option maxRecDepth 20000 in
theorem lb_X7_areTwo : LBt mX7_areTwo 2 := ⟨mT1 (List.mem_of_getElem? (i := 8) rfl) rfl, mT5 (List.mem_of_getElem? (i := 54) rfl) rfl, ⟨by decide +kernel, by decide +kernel, by decide +kernel⟩, by decide⟩
set_option maxRecDepth 20000 in
theorem lb_X7_spoil : LBt mX7_spoil 2 := ⟨mT1 (List.mem_of_getElem? (i := 8) rfl) rfl, mT5 (List.mem_of_getElem? (i := 58) rfl) rfl, ⟨by decide +kernel, by decide +kernel, by decide +kernel⟩, by decide⟩
set_option maxRecDepth 20000 in
theorem lb_X7_gran : LBt mX7_gran 2 := ⟨mT1 (List.mem_of_getElem? (i := 8) rfl) rfl, mT5 (List.mem_of_getElem? (i := 63) rfl) rfl, ⟨by decide +kernel, by decide +kernel, by decide +kernel⟩, by decide⟩
set_option maxRecDepth 20000 in
theorem lb_X7_child : LBt mX7_child 2 := ⟨mT1 (List.mem_of_getElem? (i := 8) rfl) rfl, mT5 (List.mem_of_getElem? (i := 67) rfl) rfl, ⟨by decide +kernel, by decide +kernel, by decide +kernel⟩, by decide⟩
set_option maxRecDepth 20000 in
theorem lb_X7_visitors : LBt mX7_visitors 1 := ⟨mT1 (List.mem_of_getElem? (i := 8) rfl) rfl, mT5 (List.mem_of_getElem? (i := 71) rfl) rfl, ⟨by decide +kernel, by decide +kernel, by decide +kernel⟩, by decide⟩
set_option maxRecDepth 20000 in
theorem lb_X7_ahead : LBt mX7_ahead 3 := ⟨mT1 (List.mem_of_getElem? (i := 8) rfl) rfl, mT5 (List.mem_of_getElem? (i := 75) rfl) rfl, ⟨by decide +kernel, by decide +kernel, by decide +kernel⟩, by decide⟩
set_option maxRecDepth 20000 in
theorem lb_X7_layTried : LBt mX7_layTried 1 := ⟨mT1 (List.mem_of_getElem? (i := 8) rfl) rfl, mT5 (List.mem_of_getElem? (i := 79) rfl) rfl, ⟨by decide +kernel, by decide +kernel, by decide +kernel⟩, by decide⟩
set_option maxRecDepth 20000 in
theorem lb_X7_withWhom : LBt mX7_withWhom 2 := ⟨mT1 (List.mem_of_getElem? (i := 8) rfl) rfl, mT5 (List.mem_of_getElem? (i := 83) rfl) rfl, ⟨by decide +kernel, by decide +kernel, by decide +kernel⟩, by decide⟩
set_option maxRecDepth 20000 in
theorem lb_X7_whole : LBt mX7_whole 1 := ⟨mT1 (List.mem_of_getElem? (i := 8) rfl) rfl, mT5 (List.mem_of_getElem? (i := 87) rfl) rfl, ⟨by decide +kernel, by decide +kernel, by decide +kernel⟩, by decide⟩
set_option maxRecDepth 20000 in
theorem lb_X7_wholeTried : LBt mX7_wholeTried 1 := ⟨mT1 (List.mem_of_getElem? (i := 8) rfl) rfl, mT5 (List.mem_of_getElem? (i := 91) rfl) rfl, ⟨by decide +kernel, by decide +kernel, by decide +kernel⟩, by decide⟩
set_option maxRecDepth 20000 in
theorem lb_X7_hungry : LBt mX7_hungry 1 := ⟨mT1 (List.mem_of_getElem? (i := 8) rfl) rfl, mT5 (List.mem_of_getElem? (i := 95) rfl) rfl, ⟨by decide +kernel, by decide +kernel, by decide +kernel⟩, by decide⟩
set_option maxRecDepth 20000 in
theorem lb_X7_without : LBt mX7_without 1 := ⟨mT1 (List.mem_of_getElem? (i := 8) rfl) rfl, mT5 (List.mem_of_getElem? (i := 99) rfl) rfl, ⟨by decide +kernel, by decide +kernel, by decide +kernel⟩, by decide⟩
set_option maxRecDepth 20000 in
theorem lb_X7_allChildren : LBt mX7_allChildren 0 := ⟨mT1 (List.mem_of_getElem? (i := 8) rfl) rfl, mT5 (List.mem_of_getElem? (i := 103) rfl) rfl, ⟨by decide +kernel, by decide +kernel, by decide +kernel⟩, by decide⟩
set_option maxRecDepth 20000 in
theorem lb_X7_visitedTried : LBt mX7_visitedTried 1 := ⟨mT1 (List.mem_of_getElem? (i := 8) rfl) rfl, mT5 (List.mem_of_getElem? (i := 107) rfl) rfl, ⟨by decide +kernel, by decide +kernel, by decide +kernel⟩, by decide⟩
set_option maxRecDepth 20000 in
theorem lb_X7_rota : LBt mX7_rota 3 := ⟨mT1 (List.mem_of_getElem? (i := 8) rfl) rfl, mT5 (List.mem_of_getElem? (i := 111) rfl) rfl, ⟨by decide +kernel, by decide +kernel, by decide +kernel⟩, by decide⟩
set_option maxRecDepth 20000 in
theorem lb_X7_changes : LBt mX7_changes 0 := ⟨mT1 (List.mem_of_getElem? (i := 8) rfl) rfl, mT5 (List.mem_of_getElem? (i := 116) rfl) rfl, ⟨by decide +kernel, by decide +kernel, by decide +kernel⟩, by decide⟩
set_option maxRecDepth 20000 in
theorem lb_X7_servesAll : LBt mX7_servesAll 2 := ⟨mT1 (List.mem_of_getElem? (i := 8) rfl) rfl, mT5 (List.mem_of_getElem? (i := 120) rfl) rfl, ⟨by decide +kernel, by decide +kernel, by decide +kernel⟩, by decide⟩
set_option maxRecDepth 20000 in
theorem lb_X7_nextFirsts : LBt mX7_nextFirsts 0 := ⟨mT1 (List.mem_of_getElem? (i := 8) rfl) rfl, mT5 (List.mem_of_getElem? (i := 124) rfl) rfl, ⟨by decide +kernel, by decide +kernel, by decide +kernel⟩, by decide⟩
set_option maxRecDepth 20000 in
theorem lb_X7_meets : LBt mX7_meets 2 := ⟨mT1 (List.mem_of_getElem? (i := 8) rfl) rfl, mT5 (List.mem_of_getElem? (i := 128) rfl) rfl, ⟨by decide +kernel, by decide +kernel, by decide +kernel⟩, by decide⟩
set_option maxRecDepth 20000 in
theorem lb_X7_lost : LBt mX7_lost 1 := ⟨mT1 (List.mem_of_getElem? (i := 8) rfl) rfl, mT5 (List.mem_of_getElem? (i := 132) rfl) rfl, ⟨by decide +kernel, by decide +kernel, by decide +kernel⟩, by decide⟩
set_option maxRecDepth 20000 in
theorem lb_X7_swaps : LBt mX7_swaps 2 := ⟨mT1 (List.mem_of_getElem? (i := 8) rfl) rfl, mT5 (List.mem_of_getElem? (i := 136) rfl) rfl, ⟨by decide +kernel, by decide +kernel, by decide +kernel⟩, by decide⟩
set_option maxRecDepth 20000 in
theorem lb_X7_isBetter : LBt mX7_isBetter 3 := ⟨mT1 (List.mem_of_getElem? (i := 8) rfl) rfl, mT5 (List.mem_of_getElem? (i := 140) rfl) rfl, ⟨by decide +kernel, by decide +kernel, by decide +kernel⟩, by decide⟩
set_option maxRecDepth 20000 in
theorem lb_X7_soon : LBt mX7_soon 2 := ⟨mT1 (List.mem_of_getElem? (i := 8) rfl) rfl, mT5 (List.mem_of_getElem? (i := 144) rfl) rfl, ⟨by decide +kernel, by decide +kernel, by decide +kernel⟩, by decide⟩
set_option maxRecDepth 20000 in
theorem lb_X7_who : LBt mX7_who 5 := ⟨mT1 (List.mem_of_getElem? (i := 8) rfl) rfl, mT5 (List.mem_of_getElem? (i := 148) rfl) rfl, ⟨by decide +kernel, by decide +kernel, by decide +kernel⟩, by decide⟩
set_option maxRecDepth 20000 in
theorem lb_X7_noItems : LBt mX7_noItems 5 := ⟨mT1 (List.mem_of_getElem? (i := 8) rfl) rfl, mT5 (List.mem_of_getElem? (i := 152) rfl) rfl, ⟨by decide +kernel, by decide +kernel, by decide +kernel⟩, by decide⟩
set_option maxRecDepth 20000 in
theorem lb_X7_isFedSo : LBt mX7_isFedSo 6 := ⟨mT1 (List.mem_of_getElem? (i := 8) rfl) rfl, mT5 (List.mem_of_getElem? (i := 157) rfl) rfl, ⟨by decide +kernel, by decide +kernel, by decide +kernel⟩, by decide⟩
set_option maxRecDepth 20000 in
theorem lb_X7_firsts : LBt mX7_firsts 5 := ⟨mT1 (List.mem_of_getElem? (i := 8) rfl) rfl, mT5 (List.mem_of_getElem? (i := 161) rfl) rfl, ⟨by decide +kernel, by decide +kernel, by decide +kernel⟩, by decide⟩
set_option maxRecDepth 20000 in
theorem lb_X7_steps : LBt mX7_steps 5 := ⟨mT1 (List.mem_of_getElem? (i := 8) rfl) rfl, mT5 (List.mem_of_getElem? (i := 165) rfl) rfl, ⟨by decide +kernel, by decide +kernel, by decide +kernel⟩, by decide⟩
set_option maxRecDepth 20000 in
theorem lb_X7_even : LBt mX7_even 1 := ⟨mT1 (List.mem_of_getElem? (i := 8) rfl) rfl, mT5 (List.mem_of_getElem? (i := 169) rfl) rfl, ⟨by decide +kernel, by decide +kernel, by decide +kernel⟩, by decide⟩
set_option maxRecDepth 20000 in
theorem lb_X7_fever : LBt mX7_fever 3 := ⟨mT1 (List.mem_of_getElem? (i := 8) rfl) rfl, mT5 (List.mem_of_getElem? (i := 173) rfl) rfl, ⟨by decide +kernel, by decide +kernel, by decide +kernel⟩, by decide⟩
set_option maxRecDepth 20000 in
theorem lb_X7_isVisited : LBt mX7_isVisited 1 := ⟨mT1 (List.mem_of_getElem? (i := 8) rfl) rfl, mT5 (List.mem_of_getElem? (i := 179) rfl) rfl, ⟨by decide +kernel, by decide +kernel, by decide +kernel⟩, by decide⟩
set_option maxRecDepth 20000 in
theorem lb_X7_drawn : LBt mX7_drawn 3 := ⟨mT1 (List.mem_of_getElem? (i := 8) rfl) rfl, mT5 (List.mem_of_getElem? (i := 183) rfl) rfl, ⟨by decide +kernel, by decide +kernel, by decide +kernel⟩, by decide⟩
set_option maxRecDepth 20000 in
theorem lb_X7_sumOf : LBt mX7_sumOf 1 := ⟨mT1 (List.mem_of_getElem? (i := 8) rfl) rfl, mT5 (List.mem_of_getElem? (i := 191) rfl) rfl, ⟨by decide +kernel, by decide +kernel, by decide +kernel⟩, by decide⟩
set_option maxRecDepth 20000 in
theorem lb_X7_image : LBt mX7_image 1 := ⟨mT1 (List.mem_of_getElem? (i := 8) rfl) rfl, mT5 (List.mem_of_getElem? (i := 195) rfl) rfl, ⟨by decide +kernel, by decide +kernel, by decide +kernel⟩, by decide⟩
set_option maxRecDepth 20000 in
theorem lb_X7_restore : LBt mX7_restore 1 := ⟨mT1 (List.mem_of_getElem? (i := 8) rfl) rfl, mT5 (List.mem_of_getElem? (i := 199) rfl) rfl, ⟨by decide +kernel, by decide +kernel, by decide +kernel⟩, by decide⟩
set_option maxRecDepth 20000 in
theorem lb_X7_kind : LBt mX7_kind 1 := ⟨mT1 (List.mem_of_getElem? (i := 8) rfl) rfl, mT5 (List.mem_of_getElem? (i := 203) rfl) rfl, ⟨by decide +kernel, by decide +kernel, by decide +kernel⟩, by decide⟩
set_option maxRecDepth 20000 in
theorem lb_X7_as : LBt mX7_as 2 := ⟨mT1 (List.mem_of_getElem? (i := 8) rfl) rfl, mT5 (List.mem_of_getElem? (i := 207) rfl) rfl, ⟨by decide +kernel, by decide +kernel, by decide +kernel⟩, by decide⟩
set_option maxRecDepth 20000 in
theorem lb_X7_isOf : LBt mX7_isOf 2 := ⟨mT1 (List.mem_of_getElem? (i := 8) rfl) rfl, mT5 (List.mem_of_getElem? (i := 211) rfl) rfl, ⟨by decide +kernel, by decide +kernel, by decide +kernel⟩, by decide⟩
set_option maxRecDepth 20000 in
theorem lb_X7_ask : LBt mX7_ask 2 := ⟨mT1 (List.mem_of_getElem? (i := 8) rfl) rfl, mT5 (List.mem_of_getElem? (i := 215) rfl) rfl, ⟨by decide +kernel, by decide +kernel, by decide +kernel⟩, by decide⟩
set_option maxRecDepth 20000 in
theorem lb_X7_sizeOf : LBt mX7_sizeOf 1 := ⟨mT1 (List.mem_of_getElem? (i := 8) rfl) rfl, mT5 (List.mem_of_getElem? (i := 219) rfl) rfl, ⟨by decide +kernel, by decide +kernel, by decide +kernel⟩, by decide⟩
set_option maxRecDepth 20000 in
theorem lb_X7_begin : LBt mX7_begin 1 := ⟨mT1 (List.mem_of_getElem? (i := 8) rfl) rfl, mT5 (List.mem_of_getElem? (i := 223) rfl) rfl, ⟨by decide +kernel, by decide +kernel, by decide +kernel⟩, by decide⟩
set_option maxRecDepth 20000 in
theorem lb_X7_soupsSize : LBt mX7_soupsSize 1 := ⟨mT1 (List.mem_of_getElem? (i := 8) rfl) rfl, mT5 (List.mem_of_getElem? (i := 227) rfl) rfl, ⟨by decide +kernel, by decide +kernel, by decide +kernel⟩, by decide⟩
set_option maxRecDepth 20000 in
theorem lb_X7_lentSize : LBt mX7_lentSize 1 := ⟨mT1 (List.mem_of_getElem? (i := 8) rfl) rfl, mT5 (List.mem_of_getElem? (i := 231) rfl) rfl, ⟨by decide +kernel, by decide +kernel, by decide +kernel⟩, by decide⟩
set_option maxRecDepth 20000 in
theorem lb_X7_mark : LBt mX7_mark 1 := ⟨mT1 (List.mem_of_getElem? (i := 8) rfl) rfl, mT5 (List.mem_of_getElem? (i := 235) rfl) rfl, ⟨by decide +kernel, by decide +kernel, by decide +kernel⟩, by decide⟩
set_option maxRecDepth 20000 in
theorem lb_X7_soupsMark : LBt mX7_soupsMark 1 := ⟨mT1 (List.mem_of_getElem? (i := 8) rfl) rfl, mT5 (List.mem_of_getElem? (i := 239) rfl) rfl, ⟨by decide +kernel, by decide +kernel, by decide +kernel⟩, by decide⟩
set_option maxRecDepth 20000 in
theorem lb_X7_lentMark : LBt mX7_lentMark 1 := ⟨mT1 (List.mem_of_getElem? (i := 8) rfl) rfl, mT6 (List.mem_of_getElem? (i := 3) rfl) rfl, ⟨by decide +kernel, by decide +kernel, by decide +kernel⟩, by decide⟩
set_option maxRecDepth 20000 in
theorem lb_X7_sternSize : LBt mX7_sternSize 1 := ⟨mT1 (List.mem_of_getElem? (i := 8) rfl) rfl, mT6 (List.mem_of_getElem? (i := 7) rfl) rfl, ⟨by decide +kernel, by decide +kernel, by decide +kernel⟩, by decide⟩
set_option maxRecDepth 20000 in
theorem lb_X7_sternMark : LBt mX7_sternMark 1 := ⟨mT1 (List.mem_of_getElem? (i := 8) rfl) rfl, mT6 (List.mem_of_getElem? (i := 11) rfl) rfl, ⟨by decide +kernel, by decide +kernel, by decide +kernel⟩, by decide⟩
set_option maxRecDepth 20000 in
theorem lb_X7_trace : LBt mX7_trace 1 := ⟨mT1 (List.mem_of_getElem? (i := 8) rfl) rfl, mT6 (List.mem_of_getElem? (i := 15) rfl) rfl, ⟨by decide +kernel, by decide +kernel, by decide +kernel⟩, by decide⟩
set_option maxRecDepth 20000 in
theorem lb_X7_count : LBt mX7_count 1 := ⟨mT1 (List.mem_of_getElem? (i := 8) rfl) rfl, mT6 (List.mem_of_getElem? (i := 19) rfl) rfl, ⟨by decide +kernel, by decide +kernel, by decide +kernel⟩, by decide⟩
set_option maxRecDepth 20000 in
theorem lb_X7_status : LBt mX7_status 0 := ⟨mT1 (List.mem_of_getElem? (i := 8) rfl) rfl, mT6 (List.mem_of_getElem? (i := 23) rfl) rfl, ⟨by decide +kernel, by decide +kernel, by decide +kernel⟩, by decide⟩
set_option maxRecDepth 20000 in
theorem lk_L_13 : LVt RL 13 mX6_row 3 := ⟨mT2 (List.mem_of_getElem? (i := 31) rfl) rfl, mT2 (List.mem_of_getElem? (i := 32) rfl) rfl, mT2 (List.mem_of_getElem? (i := 33) rfl) rfl, lb_X6_row⟩
set_option maxRecDepth 20000 in
theorem lk_X6_70 : LSt RX6 70 mX4_holds 1 := ⟨Or.inl (mT2 (List.mem_of_getElem? (i := 35) rfl) rfl), mT2 (List.mem_of_getElem? (i := 36) rfl) rfl, lb_X4_holds⟩
set_option maxRecDepth 20000 in
theorem lk_X4_23 : LSt RX4 23 mX6_within 3 := ⟨Or.inr ⟨"LentGrannies", List.mem_of_getElem? (i := 0) rfl⟩, mT2 (List.mem_of_getElem? (i := 39) rfl) rfl, lb_X6_within⟩
set_option maxRecDepth 20000 in
theorem lk_X6_74 : LSt RX6 74 mX6_within 3 := ⟨Or.inl (mT2 (List.mem_of_getElem? (i := 41) rfl) rfl), mT2 (List.mem_of_getElem? (i := 39) rfl) rfl, lb_X6_within⟩
set_option maxRecDepth 20000 in
theorem lk_X6_79 : LVt RX6 79 mX6_found 1 := ⟨mT2 (List.mem_of_getElem? (i := 43) rfl) rfl, mT2 (List.mem_of_getElem? (i := 45) rfl) rfl, mSel (q := (yX6_found, 13)) (mP1 (List.mem_of_getElem? (i := 0) rfl)), lb_X6_found⟩
set_option maxRecDepth 20000 in
theorem lk_X6_83 : LVt RX6 83 mX4_lay 3 := ⟨mT2 (List.mem_of_getElem? (i := 48) rfl) rfl, mT2 (List.mem_of_getElem? (i := 49) rfl) rfl, mT2 (List.mem_of_getElem? (i := 50) rfl) rfl, lb_X4_lay⟩
set_option maxRecDepth 20000 in
theorem lk_L_18 : LVt RL 18 mX6_set 3 := ⟨mT2 (List.mem_of_getElem? (i := 52) rfl) rfl, mT2 (List.mem_of_getElem? (i := 53) rfl) rfl, mT2 (List.mem_of_getElem? (i := 54) rfl) rfl, lb_X6_set⟩
set_option maxRecDepth 20000 in
theorem lk_X6_91 : LVt RX6 91 mX4_findingOf 3 := ⟨mT2 (List.mem_of_getElem? (i := 56) rfl) rfl, mT2 (List.mem_of_getElem? (i := 57) rfl) rfl, mT2 (List.mem_of_getElem? (i := 58) rfl) rfl, lb_X4_findingOf⟩
set_option maxRecDepth 20000 in
theorem lk_X4_27 : LVt RX4 27 mX4_isMissing 1 := ⟨mT2 (List.mem_of_getElem? (i := 60) rfl) rfl, mT2 (List.mem_of_getElem? (i := 61) rfl) rfl, mT2 (List.mem_of_getElem? (i := 62) rfl) rfl, lb_X4_isMissing⟩
set_option maxRecDepth 20000 in
theorem lk_X4_31 : LVt RX4 31 mX4_isSpan 3 := ⟨mT2 (List.mem_of_getElem? (i := 64) rfl) rfl, mT2 (List.mem_of_getElem? (i := 66) rfl) rfl, mSel (q := (yX4_isSpan, 3)) (mP1 (List.mem_of_getElem? (i := 1) rfl)), lb_X4_isSpan⟩
set_option maxRecDepth 20000 in
theorem lk_X6_95 : LVt RX6 95 mX4_put 3 := ⟨mT2 (List.mem_of_getElem? (i := 68) rfl) rfl, mT2 (List.mem_of_getElem? (i := 69) rfl) rfl, mT2 (List.mem_of_getElem? (i := 70) rfl) rfl, lb_X4_put⟩
set_option maxRecDepth 20000 in
theorem lk_L_22 : LVt RL 22 mX6_copy 5 := ⟨mT2 (List.mem_of_getElem? (i := 72) rfl) rfl, mT2 (List.mem_of_getElem? (i := 73) rfl) rfl, mT2 (List.mem_of_getElem? (i := 74) rfl) rfl, lb_X6_copy⟩
set_option maxRecDepth 20000 in
theorem lk_X6_98 : LVt RX6 98 mX4_findingOfMove 5 := ⟨mT2 (List.mem_of_getElem? (i := 76) rfl) rfl, mT2 (List.mem_of_getElem? (i := 77) rfl) rfl, mT2 (List.mem_of_getElem? (i := 78) rfl) rfl, lb_X4_findingOfMove⟩
set_option maxRecDepth 20000 in
theorem lk_X6_102 : LVt RX6 102 mX4_move 5 := ⟨mT2 (List.mem_of_getElem? (i := 80) rfl) rfl, mT2 (List.mem_of_getElem? (i := 81) rfl) rfl, mT2 (List.mem_of_getElem? (i := 82) rfl) rfl, lb_X4_move⟩
set_option maxRecDepth 20000 in
theorem lk_L_27 : LVt RL 27 mX6_drop 1 := ⟨mT2 (List.mem_of_getElem? (i := 87) rfl) rfl, mT2 (List.mem_of_getElem? (i := 88) rfl) rfl, mT2 (List.mem_of_getElem? (i := 89) rfl) rfl, lb_X6_drop⟩
set_option maxRecDepth 20000 in
theorem lk_X6_106 : LVt RX6 106 mX4_isMissing 1 := ⟨mT2 (List.mem_of_getElem? (i := 91) rfl) rfl, mT2 (List.mem_of_getElem? (i := 61) rfl) rfl, mT2 (List.mem_of_getElem? (i := 62) rfl) rfl, lb_X4_isMissing⟩
set_option maxRecDepth 20000 in
theorem lk_X6_109 : LVt RX6 109 mX4_takeAway 1 := ⟨mT2 (List.mem_of_getElem? (i := 92) rfl) rfl, mT2 (List.mem_of_getElem? (i := 93) rfl) rfl, mT2 (List.mem_of_getElem? (i := 94) rfl) rfl, lb_X4_takeAway⟩
set_option maxRecDepth 20000 in
theorem lk_L_32 : LVt RL 32 mX6_feed 1 := ⟨mT2 (List.mem_of_getElem? (i := 96) rfl) rfl, mT2 (List.mem_of_getElem? (i := 97) rfl) rfl, mT2 (List.mem_of_getElem? (i := 98) rfl) rfl, lb_X6_feed⟩
set_option maxRecDepth 20000 in
theorem lk_X6_112 : LVt RX6 112 mX2_append 1 := ⟨mT2 (List.mem_of_getElem? (i := 100) rfl) rfl, mT2 (List.mem_of_getElem? (i := 101) rfl) rfl, mT2 (List.mem_of_getElem? (i := 102) rfl) rfl, lb_X2_append⟩
set_option maxRecDepth 20000 in
theorem lk_L_36 : LVt RL 36 mX6_town 0 := ⟨mT2 (List.mem_of_getElem? (i := 105) rfl) rfl, mT2 (List.mem_of_getElem? (i := 106) rfl) rfl, mT2 (List.mem_of_getElem? (i := 107) rfl) rfl, lb_X6_town⟩
set_option maxRecDepth 20000 in
theorem lk_X6_119 : LVt RX6 119 mX2_readAll 0 := ⟨mT2 (List.mem_of_getElem? (i := 109) rfl) rfl, mT2 (List.mem_of_getElem? (i := 110) rfl) rfl, mT2 (List.mem_of_getElem? (i := 111) rfl) rfl, lb_X2_readAll⟩
set_option maxRecDepth 20000 in
theorem lk_X2_41 : LVt RX2 41 mX2_readLaw 0 := ⟨mT2 (List.mem_of_getElem? (i := 113) rfl) rfl, mT2 (List.mem_of_getElem? (i := 115) rfl) rfl, mSel (q := (yX2_readLaw, 6)) (mP1 (List.mem_of_getElem? (i := 2) rfl)), lb_X2_readLaw⟩
set_option maxRecDepth 20000 in
theorem lk_X2_50 : LVt RX2 50 mX2_takeSign 1 := ⟨mT2 (List.mem_of_getElem? (i := 117) rfl) rfl, mT2 (List.mem_of_getElem? (i := 119) rfl) rfl, mSel (q := (yX2_takeSign, 6)) (mP1 (List.mem_of_getElem? (i := 3) rfl)), lb_X2_takeSign⟩
set_option maxRecDepth 20000 in
theorem lk_X2_64 : LVt RX2 64 mX2_nextByte 0 := ⟨mT2 (List.mem_of_getElem? (i := 121) rfl) rfl, mT2 (List.mem_of_getElem? (i := 123) rfl) rfl, mSel (q := (yX2_nextByte, 6)) (mP1 (List.mem_of_getElem? (i := 4) rfl)), lb_X2_nextByte⟩
set_option maxRecDepth 20000 in
theorem lk_X2_77 : LVt RX2 77 mX2_fail 1 := ⟨mT2 (List.mem_of_getElem? (i := 125) rfl) rfl, mT2 (List.mem_of_getElem? (i := 127) rfl) rfl, mSel (q := (yX2_fail, 6)) (mP1 (List.mem_of_getElem? (i := 5) rfl)), lb_X2_fail⟩
set_option maxRecDepth 20000 in
theorem lk_X2_54 : LVt RX2 54 mX2_takeNumber 2 := ⟨mT2 (List.mem_of_getElem? (i := 129) rfl) rfl, mT2 (List.mem_of_getElem? (i := 131) rfl) rfl, mSel (q := (yX2_takeNumber, 6)) (mP1 (List.mem_of_getElem? (i := 6) rfl)), lb_X2_takeNumber⟩
set_option maxRecDepth 20000 in
theorem lk_X2_105 : LSt RX2 105 mX6_within 3 := ⟨Or.inr ⟨"LentGrannies", List.mem_of_getElem? (i := 1) rfl⟩, mT2 (List.mem_of_getElem? (i := 39) rfl) rfl, lb_X6_within⟩
set_option maxRecDepth 20000 in
theorem lk_X2_44 : LVt RX2 44 mX2_readChildren 0 := ⟨mT2 (List.mem_of_getElem? (i := 134) rfl) rfl, mT2 (List.mem_of_getElem? (i := 136) rfl) rfl, mSel (q := (yX2_readChildren, 6)) (mP1 (List.mem_of_getElem? (i := 7) rfl)), lb_X2_readChildren⟩
set_option maxRecDepth 20000 in
theorem lk_X2_47 : LVt RX2 47 mX2_readGrans 0 := ⟨mT2 (List.mem_of_getElem? (i := 138) rfl) rfl, mT2 (List.mem_of_getElem? (i := 140) rfl) rfl, mSel (q := (yX2_readGrans, 6)) (mP1 (List.mem_of_getElem? (i := 8) rfl)), lb_X2_readGrans⟩
set_option maxRecDepth 20000 in
theorem lk_X2_83 : LVt RX2 83 mX2_takeSort 0 := ⟨mT2 (List.mem_of_getElem? (i := 142) rfl) rfl, mT2 (List.mem_of_getElem? (i := 144) rfl) rfl, mSel (q := (yX2_takeSort, 6)) (mP1 (List.mem_of_getElem? (i := 9) rfl)), lb_X2_takeSort⟩
set_option maxRecDepth 20000 in
theorem lk_X2_101 : LSt RX2 101 mX2_sortOf 1 := ⟨Or.inl (mT2 (List.mem_of_getElem? (i := 146) rfl) rfl), mT2 (List.mem_of_getElem? (i := 147) rfl) rfl, lb_X2_sortOf⟩
set_option maxRecDepth 20000 in
theorem lk_X6_133 : LVt RX6 133 mX5_save 1 := ⟨mT2 (List.mem_of_getElem? (i := 150) rfl) rfl, mT2 (List.mem_of_getElem? (i := 151) rfl) rfl, mT2 (List.mem_of_getElem? (i := 152) rfl) rfl, lb_X5_save⟩
set_option maxRecDepth 20000 in
theorem lk_X6_137 : LVt RX6 137 mX5_load 1 := ⟨mT2 (List.mem_of_getElem? (i := 154) rfl) rfl, mT2 (List.mem_of_getElem? (i := 155) rfl) rfl, mT2 (List.mem_of_getElem? (i := 156) rfl) rfl, lb_X5_load⟩
set_option maxRecDepth 20000 in
theorem lk_X6_140 : LVt RX6 140 mX0_forget 0 := ⟨mT2 (List.mem_of_getElem? (i := 158) rfl) rfl, mT2 (List.mem_of_getElem? (i := 159) rfl) rfl, mT2 (List.mem_of_getElem? (i := 160) rfl) rfl, lb_X0_forget⟩
set_option maxRecDepth 20000 in
theorem lk_L_41 : LVt RL 41 mX6_fault 0 := ⟨mT2 (List.mem_of_getElem? (i := 162) rfl) rfl, mT2 (List.mem_of_getElem? (i := 163) rfl) rfl, mT2 (List.mem_of_getElem? (i := 164) rfl) rfl, lb_X6_fault⟩
set_option maxRecDepth 20000 in
theorem lk_L_45 : LVt RL 45 mX6_undo 0 := ⟨mT2 (List.mem_of_getElem? (i := 166) rfl) rfl, mT2 (List.mem_of_getElem? (i := 167) rfl) rfl, mT2 (List.mem_of_getElem? (i := 168) rfl) rfl, lb_X6_undo⟩
set_option maxRecDepth 20000 in
theorem lk_X6_146 : LVt RX6 146 mX0_takeBack 1 := ⟨mT2 (List.mem_of_getElem? (i := 170) rfl) rfl, mT2 (List.mem_of_getElem? (i := 171) rfl) rfl, mT2 (List.mem_of_getElem? (i := 172) rfl) rfl, lb_X0_takeBack⟩
set_option maxRecDepth 20000 in
theorem lk_X0_29 : LVt RX0 29 mX5_load 1 := ⟨mT2 (List.mem_of_getElem? (i := 174) rfl) rfl, mT2 (List.mem_of_getElem? (i := 155) rfl) rfl, mT2 (List.mem_of_getElem? (i := 156) rfl) rfl, lb_X5_load⟩
set_option maxRecDepth 20000 in
theorem lk_L_49 : LVt RL 49 mX6_days 1 := ⟨mT2 (List.mem_of_getElem? (i := 176) rfl) rfl, mT2 (List.mem_of_getElem? (i := 177) rfl) rfl, mT2 (List.mem_of_getElem? (i := 178) rfl) rfl, lb_X6_days⟩
set_option maxRecDepth 20000 in
theorem lk_X6_154 : LVt RX6 154 mX6_noTown 0 := ⟨mT2 (List.mem_of_getElem? (i := 180) rfl) rfl, mT2 (List.mem_of_getElem? (i := 182) rfl) rfl, mSel (q := (yX6_noTown, 13)) (mP1 (List.mem_of_getElem? (i := 10) rfl)), lb_X6_noTown⟩
set_option maxRecDepth 20000 in
theorem lk_X6_161 : LVt RX6 161 mX0_keep 1 := ⟨mT2 (List.mem_of_getElem? (i := 184) rfl) rfl, mT2 (List.mem_of_getElem? (i := 185) rfl) rfl, mT2 (List.mem_of_getElem? (i := 186) rfl) rfl, lb_X0_keep⟩
set_option maxRecDepth 20000 in
theorem lk_X0_25 : LVt RX0 25 mX5_save 1 := ⟨mT2 (List.mem_of_getElem? (i := 188) rfl) rfl, mT2 (List.mem_of_getElem? (i := 151) rfl) rfl, mT2 (List.mem_of_getElem? (i := 152) rfl) rfl, lb_X5_save⟩
set_option maxRecDepth 20000 in
theorem lk_X6_165 : LVt RX6 165 mX5_passDay 0 := ⟨mT2 (List.mem_of_getElem? (i := 189) rfl) rfl, mT2 (List.mem_of_getElem? (i := 190) rfl) rfl, mT2 (List.mem_of_getElem? (i := 191) rfl) rfl, lb_X5_passDay⟩
set_option maxRecDepth 20000 in
theorem lk_X5_66 : LVt RX5 66 mX5_seat 1 := ⟨mT2 (List.mem_of_getElem? (i := 193) rfl) rfl, mT2 (List.mem_of_getElem? (i := 195) rfl) rfl, mSel (q := (yX5_seat, 16)) (mP1 (List.mem_of_getElem? (i := 11) rfl)), lb_X5_seat⟩
set_option maxRecDepth 20000 in
theorem lk_X5_62 : LVt RX5 62 mX5_hostOf 2 := ⟨mT2 (List.mem_of_getElem? (i := 197) rfl) rfl, mT2 (List.mem_of_getElem? (i := 198) rfl) rfl, mT2 (List.mem_of_getElem? (i := 199) rfl) rfl, lb_X5_hostOf⟩
set_option maxRecDepth 20000 in
theorem lk_X5_70 : LVt RX5 70 mX5_brings 1 := ⟨mT2 (List.mem_of_getElem? (i := 202) rfl) rfl, mT2 (List.mem_of_getElem? (i := 204) rfl) rfl, mSel (q := (yX5_brings, 16)) (mP1 (List.mem_of_getElem? (i := 12) rfl)), lb_X5_brings⟩
set_option maxRecDepth 20000 in
theorem lk_X5_81 : LVt RX5 81 mX5_visit 2 := ⟨mT2 (List.mem_of_getElem? (i := 206) rfl) rfl, mT2 (List.mem_of_getElem? (i := 208) rfl) rfl, mSel (q := (yX5_visit, 16)) (mP1 (List.mem_of_getElem? (i := 13) rfl)), lb_X5_visit⟩
set_option maxRecDepth 20000 in
theorem lk_X5_85 : LVt RX5 85 mX5_addFed 2 := ⟨mT2 (List.mem_of_getElem? (i := 210) rfl) rfl, mT2 (List.mem_of_getElem? (i := 212) rfl) rfl, mSel (q := (yX5_addFed, 16)) (mP1 (List.mem_of_getElem? (i := 14) rfl)), lb_X5_addFed⟩
set_option maxRecDepth 20000 in
theorem lk_X5_93 : LVt RX5 93 mX5_addSpoilt 2 := ⟨mT2 (List.mem_of_getElem? (i := 220) rfl) rfl, mT2 (List.mem_of_getElem? (i := 221) rfl) rfl, mT2 (List.mem_of_getElem? (i := 222) rfl) rfl, lb_X5_addSpoilt⟩
set_option maxRecDepth 20000 in
theorem lk_L_53 : LVt RL 53 mX6_sick 2 := ⟨mT2 (List.mem_of_getElem? (i := 224) rfl) rfl, mT2 (List.mem_of_getElem? (i := 225) rfl) rfl, mT2 (List.mem_of_getElem? (i := 226) rfl) rfl, lb_X6_sick⟩
set_option maxRecDepth 20000 in
theorem lk_X6_168 : LVt RX6 168 mX5_hasGran 1 := ⟨mT2 (List.mem_of_getElem? (i := 228) rfl) rfl, mT2 (List.mem_of_getElem? (i := 229) rfl) rfl, mT2 (List.mem_of_getElem? (i := 230) rfl) rfl, lb_X5_hasGran⟩
set_option maxRecDepth 20000 in
theorem lk_L_58 : LVt RL 58 mX6_swap 2 := ⟨mT2 (List.mem_of_getElem? (i := 232) rfl) rfl, mT2 (List.mem_of_getElem? (i := 233) rfl) rfl, mT2 (List.mem_of_getElem? (i := 234) rfl) rfl, lb_X6_swap⟩
set_option maxRecDepth 20000 in
theorem lk_X6_174 : LVt RX6 174 mX5_hasChild 1 := ⟨mT2 (List.mem_of_getElem? (i := 236) rfl) rfl, mT2 (List.mem_of_getElem? (i := 237) rfl) rfl, mT2 (List.mem_of_getElem? (i := 238) rfl) rfl, lb_X5_hasChild⟩
set_option maxRecDepth 20000 in
theorem lk_L_62 : LVt RL 62 mX6_pace 2 := ⟨mT3 (List.mem_of_getElem? (i := 0) rfl) rfl, mT3 (List.mem_of_getElem? (i := 1) rfl) rfl, mT3 (List.mem_of_getElem? (i := 2) rfl) rfl, lb_X6_pace⟩
set_option maxRecDepth 20000 in
theorem lk_L_66 : LVt RL 66 mX6_quarrel 3 := ⟨mT3 (List.mem_of_getElem? (i := 4) rfl) rfl, mT3 (List.mem_of_getElem? (i := 5) rfl) rfl, mT3 (List.mem_of_getElem? (i := 6) rfl) rfl, lb_X6_quarrel⟩
set_option maxRecDepth 20000 in
theorem lk_L_70 : LVt RL 70 mX6_spoil 2 := ⟨mT3 (List.mem_of_getElem? (i := 8) rfl) rfl, mT3 (List.mem_of_getElem? (i := 9) rfl) rfl, mT3 (List.mem_of_getElem? (i := 10) rfl) rfl, lb_X6_spoil⟩
set_option maxRecDepth 20000 in
theorem lk_X6_186 : LVt RX6 186 mX5_addSpoilt 2 := ⟨mT3 (List.mem_of_getElem? (i := 12) rfl) rfl, mT2 (List.mem_of_getElem? (i := 221) rfl) rfl, mT2 (List.mem_of_getElem? (i := 222) rfl) rfl, lb_X5_addSpoilt⟩
set_option maxRecDepth 20000 in
theorem lk_L_74 : LVt RL 74 mX6_gran 2 := ⟨mT3 (List.mem_of_getElem? (i := 13) rfl) rfl, mT3 (List.mem_of_getElem? (i := 14) rfl) rfl, mT3 (List.mem_of_getElem? (i := 15) rfl) rfl, lb_X6_gran⟩
set_option maxRecDepth 20000 in
theorem lk_X6_196 : LVt RX6 196 mX5_hostOf 2 := ⟨mT3 (List.mem_of_getElem? (i := 17) rfl) rfl, mT2 (List.mem_of_getElem? (i := 198) rfl) rfl, mT2 (List.mem_of_getElem? (i := 199) rfl) rfl, lb_X5_hostOf⟩
set_option maxRecDepth 20000 in
theorem lk_X6_200 : LVt RX6 200 mX5_lostOn 1 := ⟨mT3 (List.mem_of_getElem? (i := 18) rfl) rfl, mT3 (List.mem_of_getElem? (i := 19) rfl) rfl, mT3 (List.mem_of_getElem? (i := 20) rfl) rfl, lb_X5_lostOn⟩
set_option maxRecDepth 20000 in
theorem lk_L_78 : LVt RL 78 mX6_child 2 := ⟨mT3 (List.mem_of_getElem? (i := 22) rfl) rfl, mT3 (List.mem_of_getElem? (i := 23) rfl) rfl, mT3 (List.mem_of_getElem? (i := 24) rfl) rfl, lb_X6_child⟩
set_option maxRecDepth 20000 in
theorem lk_X6_209 : LVt RX6 209 mX5_guestsOf 1 := ⟨mT3 (List.mem_of_getElem? (i := 26) rfl) rfl, mT3 (List.mem_of_getElem? (i := 27) rfl) rfl, mT3 (List.mem_of_getElem? (i := 28) rfl) rfl, lb_X5_guestsOf⟩
set_option maxRecDepth 20000 in
theorem lk_L_82 : LVt RL 82 mX6_ahead 3 := ⟨mT3 (List.mem_of_getElem? (i := 30) rfl) rfl, mT3 (List.mem_of_getElem? (i := 31) rfl) rfl, mT3 (List.mem_of_getElem? (i := 32) rfl) rfl, lb_X6_ahead⟩
set_option maxRecDepth 20000 in
theorem lk_X6_212 : LVt RX6 212 mX6_openTrial 0 := ⟨mT3 (List.mem_of_getElem? (i := 34) rfl) rfl, mT3 (List.mem_of_getElem? (i := 36) rfl) rfl, mSel (q := (yX6_openTrial, 13)) (mP1 (List.mem_of_getElem? (i := 15) rfl)), lb_X6_openTrial⟩
set_option maxRecDepth 20000 in
theorem lk_X6_215 : LVt RX6 215 mX5_passDays 1 := ⟨mT3 (List.mem_of_getElem? (i := 38) rfl) rfl, mT3 (List.mem_of_getElem? (i := 39) rfl) rfl, mT3 (List.mem_of_getElem? (i := 40) rfl) rfl, lb_X5_passDays⟩
set_option maxRecDepth 20000 in
theorem lk_X5_78 : LVt RX5 78 mX5_passDay 0 := ⟨mT3 (List.mem_of_getElem? (i := 42) rfl) rfl, mT2 (List.mem_of_getElem? (i := 190) rfl) rfl, mT2 (List.mem_of_getElem? (i := 191) rfl) rfl, lb_X5_passDay⟩
set_option maxRecDepth 20000 in
theorem lk_L_86 : LVt RL 86 mX6_withWhom 2 := ⟨mT3 (List.mem_of_getElem? (i := 43) rfl) rfl, mT3 (List.mem_of_getElem? (i := 44) rfl) rfl, mT3 (List.mem_of_getElem? (i := 45) rfl) rfl, lb_X6_withWhom⟩
set_option maxRecDepth 20000 in
theorem lk_L_90 : LVt RL 90 mX6_whole 1 := ⟨mT3 (List.mem_of_getElem? (i := 47) rfl) rfl, mT3 (List.mem_of_getElem? (i := 48) rfl) rfl, mT3 (List.mem_of_getElem? (i := 49) rfl) rfl, lb_X6_whole⟩
set_option maxRecDepth 20000 in
theorem lk_X6_219 : LVt RX6 219 mX5_daysToWhole 1 := ⟨mT3 (List.mem_of_getElem? (i := 51) rfl) rfl, mT3 (List.mem_of_getElem? (i := 52) rfl) rfl, mT3 (List.mem_of_getElem? (i := 53) rfl) rfl, lb_X5_daysToWhole⟩
set_option maxRecDepth 20000 in
theorem lk_L_94 : LVt RL 94 mX6_hungry 1 := ⟨mT3 (List.mem_of_getElem? (i := 55) rfl) rfl, mT3 (List.mem_of_getElem? (i := 56) rfl) rfl, mT3 (List.mem_of_getElem? (i := 57) rfl) rfl, lb_X6_hungry⟩
set_option maxRecDepth 20000 in
theorem lk_L_98 : LVt RL 98 mX6_without 1 := ⟨mT3 (List.mem_of_getElem? (i := 60) rfl) rfl, mT3 (List.mem_of_getElem? (i := 61) rfl) rfl, mT3 (List.mem_of_getElem? (i := 62) rfl) rfl, lb_X6_without⟩
set_option maxRecDepth 20000 in
theorem lk_X6_223 : LVt RX6 223 mX5_allChildren 0 := ⟨mT3 (List.mem_of_getElem? (i := 64) rfl) rfl, mT3 (List.mem_of_getElem? (i := 65) rfl) rfl, mT3 (List.mem_of_getElem? (i := 66) rfl) rfl, lb_X5_allChildren⟩
set_option maxRecDepth 20000 in
theorem lk_X6_226 : LVt RX6 226 mX5_servedIn 1 := ⟨mT3 (List.mem_of_getElem? (i := 68) rfl) rfl, mT3 (List.mem_of_getElem? (i := 69) rfl) rfl, mT3 (List.mem_of_getElem? (i := 70) rfl) rfl, lb_X5_servedIn⟩
set_option maxRecDepth 20000 in
theorem lk_X5_74 : LVt RX5 74 mX5_servedOn 1 := ⟨mT3 (List.mem_of_getElem? (i := 72) rfl) rfl, mT3 (List.mem_of_getElem? (i := 73) rfl) rfl, mT3 (List.mem_of_getElem? (i := 74) rfl) rfl, lb_X5_servedOn⟩
set_option maxRecDepth 20000 in
theorem lk_L_102 : LVt RL 102 mX6_rota 3 := ⟨mT3 (List.mem_of_getElem? (i := 76) rfl) rfl, mT3 (List.mem_of_getElem? (i := 77) rfl) rfl, mT3 (List.mem_of_getElem? (i := 78) rfl) rfl, lb_X6_rota⟩
set_option maxRecDepth 20000 in
theorem lk_X6_229 : LVt RX6 229 mX3_fewestChanges 3 := ⟨mT3 (List.mem_of_getElem? (i := 80) rfl) rfl, mT3 (List.mem_of_getElem? (i := 81) rfl) rfl, mT3 (List.mem_of_getElem? (i := 82) rfl) rfl, lb_X3_fewestChanges⟩
set_option maxRecDepth 20000 in
theorem lk_X3_28 : LVt RX3 28 mX5_load 1 := ⟨mT3 (List.mem_of_getElem? (i := 84) rfl) rfl, mT2 (List.mem_of_getElem? (i := 155) rfl) rfl, mT2 (List.mem_of_getElem? (i := 156) rfl) rfl, lb_X5_load⟩
set_option maxRecDepth 20000 in
theorem lk_X3_36 : LVt RX3 36 mX3_longestIll 0 := ⟨mT3 (List.mem_of_getElem? (i := 85) rfl) rfl, mT3 (List.mem_of_getElem? (i := 87) rfl) rfl, mSel (q := (yX3_longestIll, 6)) (mP2 (List.mem_of_getElem? (i := 0) rfl)), lb_X3_longestIll⟩
set_option maxRecDepth 20000 in
theorem lk_X3_52 : LVt RX3 52 mX3_noteReach 0 := ⟨mT3 (List.mem_of_getElem? (i := 91) rfl) rfl, mT3 (List.mem_of_getElem? (i := 93) rfl) rfl, mSel (q := (yX3_noteReach, 6)) (mP2 (List.mem_of_getElem? (i := 1) rfl)), lb_X3_noteReach⟩
set_option maxRecDepth 20000 in
theorem lk_X3_72 : LVt RX3 72 mX3_visited 1 := ⟨mT3 (List.mem_of_getElem? (i := 95) rfl) rfl, mT3 (List.mem_of_getElem? (i := 97) rfl) rfl, mSel (q := (yX3_visited, 6)) (mP2 (List.mem_of_getElem? (i := 2) rfl)), lb_X3_visited⟩
set_option maxRecDepth 20000 in
theorem lk_X3_76 : LVt RX3 76 mX5_hostOf 2 := ⟨mT3 (List.mem_of_getElem? (i := 99) rfl) rfl, mT2 (List.mem_of_getElem? (i := 198) rfl) rfl, mT2 (List.mem_of_getElem? (i := 199) rfl) rfl, lb_X5_hostOf⟩
set_option maxRecDepth 20000 in
theorem lk_X3_58 : LVt RX3 58 mX3_place 3 := ⟨mT3 (List.mem_of_getElem? (i := 101) rfl) rfl, mT3 (List.mem_of_getElem? (i := 103) rfl) rfl, mSel (q := (yX3_place, 6)) (mP2 (List.mem_of_getElem? (i := 3) rfl)), lb_X3_place⟩
set_option maxRecDepth 20000 in
theorem lk_X3_79 : LVt RX3 79 mX5_servedIn 1 := ⟨mT3 (List.mem_of_getElem? (i := 105) rfl) rfl, mT3 (List.mem_of_getElem? (i := 69) rfl) rfl, mT3 (List.mem_of_getElem? (i := 70) rfl) rfl, lb_X5_servedIn⟩
set_option maxRecDepth 20000 in
theorem lk_L_106 : LVt RL 106 mX6_meets 2 := ⟨mT3 (List.mem_of_getElem? (i := 106) rfl) rfl, mT3 (List.mem_of_getElem? (i := 107) rfl) rfl, mT3 (List.mem_of_getElem? (i := 108) rfl) rfl, lb_X6_meets⟩
set_option maxRecDepth 20000 in
theorem lk_L_110 : LVt RL 110 mX6_lost 1 := ⟨mT3 (List.mem_of_getElem? (i := 110) rfl) rfl, mT3 (List.mem_of_getElem? (i := 111) rfl) rfl, mT3 (List.mem_of_getElem? (i := 112) rfl) rfl, lb_X6_lost⟩
set_option maxRecDepth 20000 in
theorem lk_X6_236 : LSt RX6 236 mJ6_bitCount_0f7a4 1 := ⟨Or.inl (mT3 (List.mem_of_getElem? (i := 114) rfl) rfl), mT3 (List.mem_of_getElem? (i := 115) rfl) rfl, lb_J6_bitCount_0f7a4⟩
set_option maxRecDepth 20000 in
theorem lk_L_114 : LVt RL 114 mX6_swaps 2 := ⟨mT3 (List.mem_of_getElem? (i := 120) rfl) rfl, mT3 (List.mem_of_getElem? (i := 121) rfl) rfl, mT3 (List.mem_of_getElem? (i := 122) rfl) rfl, lb_X6_swaps⟩
set_option maxRecDepth 20000 in
theorem lk_X6_247 : LVt RX6 247 mX6_isGoodSwap 3 := ⟨mT3 (List.mem_of_getElem? (i := 125) rfl) rfl, mT3 (List.mem_of_getElem? (i := 127) rfl) rfl, mSel (q := (yX6_isGoodSwap, 13)) (mP2 (List.mem_of_getElem? (i := 4) rfl)), lb_X6_isGoodSwap⟩
set_option maxRecDepth 20000 in
theorem lk_L_118 : LVt RL 118 mX6_soon 2 := ⟨mT3 (List.mem_of_getElem? (i := 129) rfl) rfl, mT3 (List.mem_of_getElem? (i := 130) rfl) rfl, mT3 (List.mem_of_getElem? (i := 131) rfl) rfl, lb_X6_soon⟩
set_option maxRecDepth 20000 in
theorem lk_L_122 : LVt RL 122 mX6_who 5 := ⟨mT3 (List.mem_of_getElem? (i := 133) rfl) rfl, mT3 (List.mem_of_getElem? (i := 134) rfl) rfl, mT3 (List.mem_of_getElem? (i := 135) rfl) rfl, lb_X6_who⟩
set_option maxRecDepth 20000 in
theorem lk_X6_250 : LVt RX6 250 mX6_refusalOfTold 5 := ⟨mT3 (List.mem_of_getElem? (i := 137) rfl) rfl, mT3 (List.mem_of_getElem? (i := 139) rfl) rfl, mSel (q := (yX6_refusalOfTold, 13)) (mP2 (List.mem_of_getElem? (i := 5) rfl)), lb_X6_refusalOfTold⟩
set_option maxRecDepth 20000 in
theorem lk_X6_256 : LVt RX6 256 mX6_isFedAsTold 4 := ⟨mT3 (List.mem_of_getElem? (i := 141) rfl) rfl, mT3 (List.mem_of_getElem? (i := 143) rfl) rfl, mSel (q := (yX6_isFedAsTold, 13)) (mP2 (List.mem_of_getElem? (i := 6) rfl)), lb_X6_isFedAsTold⟩
set_option maxRecDepth 20000 in
theorem lk_X6_321 : LVt RX6 321 mX4_itemAt 2 := ⟨mT3 (List.mem_of_getElem? (i := 145) rfl) rfl, mT3 (List.mem_of_getElem? (i := 146) rfl) rfl, mT3 (List.mem_of_getElem? (i := 147) rfl) rfl, lb_X4_itemAt⟩
set_option maxRecDepth 20000 in
theorem lk_L_126 : LVt RL 126 mX6_firsts 5 := ⟨mT3 (List.mem_of_getElem? (i := 149) rfl) rfl, mT3 (List.mem_of_getElem? (i := 150) rfl) rfl, mT3 (List.mem_of_getElem? (i := 151) rfl) rfl, lb_X6_firsts⟩
set_option maxRecDepth 20000 in
theorem lk_L_130 : LVt RL 130 mX6_steps 5 := ⟨mT3 (List.mem_of_getElem? (i := 153) rfl) rfl, mT3 (List.mem_of_getElem? (i := 154) rfl) rfl, mT3 (List.mem_of_getElem? (i := 155) rfl) rfl, lb_X6_steps⟩
set_option maxRecDepth 20000 in
theorem lk_L_134 : LVt RL 134 mX6_even 1 := ⟨mT3 (List.mem_of_getElem? (i := 157) rfl) rfl, mT3 (List.mem_of_getElem? (i := 158) rfl) rfl, mT3 (List.mem_of_getElem? (i := 159) rfl) rfl, lb_X6_even⟩
set_option maxRecDepth 20000 in
theorem lk_L_138 : LVt RL 138 mX6_fever 3 := ⟨mT3 (List.mem_of_getElem? (i := 163) rfl) rfl, mT3 (List.mem_of_getElem? (i := 164) rfl) rfl, mT3 (List.mem_of_getElem? (i := 165) rfl) rfl, lb_X6_fever⟩
set_option maxRecDepth 20000 in
theorem lk_X6_273 : LSt RX6 273 mX6_power 2 := ⟨Or.inl (mT3 (List.mem_of_getElem? (i := 168) rfl) rfl), mT3 (List.mem_of_getElem? (i := 169) rfl) rfl, lb_X6_power⟩
set_option maxRecDepth 20000 in
theorem lk_X6_277 : LVt RX6 277 mX5_hasPeaceful 1 := ⟨mT3 (List.mem_of_getElem? (i := 171) rfl) rfl, mT3 (List.mem_of_getElem? (i := 172) rfl) rfl, mT3 (List.mem_of_getElem? (i := 173) rfl) rfl, lb_X5_hasPeaceful⟩
set_option maxRecDepth 20000 in
theorem lk_X6_280 : LSt RX6 280 mX6_commonDivisor 2 := ⟨Or.inl (mT3 (List.mem_of_getElem? (i := 175) rfl) rfl), mT3 (List.mem_of_getElem? (i := 176) rfl) rfl, lb_X6_commonDivisor⟩
set_option maxRecDepth 20000 in
theorem lk_L_143 : LVt RL 143 mX6_drawn 3 := ⟨mT3 (List.mem_of_getElem? (i := 181) rfl) rfl, mT3 (List.mem_of_getElem? (i := 182) rfl) rfl, mT3 (List.mem_of_getElem? (i := 183) rfl) rfl, lb_X6_drawn⟩
set_option maxRecDepth 20000 in
theorem lk_X6_291 : LVt RX6 291 mX5_fallIll 1 := ⟨mT3 (List.mem_of_getElem? (i := 189) rfl) rfl, mT3 (List.mem_of_getElem? (i := 190) rfl) rfl, mT3 (List.mem_of_getElem? (i := 191) rfl) rfl, lb_X5_fallIll⟩
set_option maxRecDepth 20000 in
theorem lk_X6_295 : LSt RX6 295 mX5_sumOf 2 := ⟨Or.inl (mT3 (List.mem_of_getElem? (i := 194) rfl) rfl), mT3 (List.mem_of_getElem? (i := 195) rfl) rfl, lb_X5_sumOf⟩
set_option maxRecDepth 20000 in
theorem lk_L_147 : LVt RL 147 mX6_image 1 := ⟨mT3 (List.mem_of_getElem? (i := 197) rfl) rfl, mT3 (List.mem_of_getElem? (i := 198) rfl) rfl, mT3 (List.mem_of_getElem? (i := 199) rfl) rfl, lb_X6_image⟩
set_option maxRecDepth 20000 in
theorem lk_L_151 : LVt RL 151 mX6_restore 1 := ⟨mT3 (List.mem_of_getElem? (i := 201) rfl) rfl, mT3 (List.mem_of_getElem? (i := 202) rfl) rfl, mT3 (List.mem_of_getElem? (i := 203) rfl) rfl, lb_X6_restore⟩
set_option maxRecDepth 20000 in
theorem lk_L_155 : LVt RL 155 mX6_kind 1 := ⟨mT3 (List.mem_of_getElem? (i := 205) rfl) rfl, mT3 (List.mem_of_getElem? (i := 206) rfl) rfl, mT3 (List.mem_of_getElem? (i := 207) rfl) rfl, lb_X6_kind⟩
set_option maxRecDepth 20000 in
theorem lk_L_159 : LVt RL 159 mX6_as 2 := ⟨mT3 (List.mem_of_getElem? (i := 209) rfl) rfl, mT3 (List.mem_of_getElem? (i := 210) rfl) rfl, mT3 (List.mem_of_getElem? (i := 211) rfl) rfl, lb_X6_as⟩
set_option maxRecDepth 20000 in
theorem lk_X6_299 : LSt RX6 299 mX6_isOfKind 2 := ⟨Or.inl (mT3 (List.mem_of_getElem? (i := 213) rfl) rfl), mT3 (List.mem_of_getElem? (i := 214) rfl) rfl, lb_X6_isOfKind⟩
set_option maxRecDepth 20000 in
theorem lk_L_163 : LVt RL 163 mX6_ask 2 := ⟨mT3 (List.mem_of_getElem? (i := 218) rfl) rfl, mT3 (List.mem_of_getElem? (i := 219) rfl) rfl, mT3 (List.mem_of_getElem? (i := 220) rfl) rfl, lb_X6_ask⟩
set_option maxRecDepth 20000 in
theorem lk_X6_303 : LVt RX6 303 mX1_turnTo 2 := ⟨mT3 (List.mem_of_getElem? (i := 222) rfl) rfl, mT3 (List.mem_of_getElem? (i := 223) rfl) rfl, mT3 (List.mem_of_getElem? (i := 224) rfl) rfl, lb_X1_turnTo⟩
set_option maxRecDepth 20000 in
theorem lk_X6_307 : LVt RX6 307 mX1_sizeAsked 0 := ⟨mT3 (List.mem_of_getElem? (i := 226) rfl) rfl, mT3 (List.mem_of_getElem? (i := 227) rfl) rfl, mT3 (List.mem_of_getElem? (i := 228) rfl) rfl, lb_X1_sizeAsked⟩
set_option maxRecDepth 20000 in
theorem lk_X1_40 : LVt RX1 40 mX1_begin 1 := ⟨mT3 (List.mem_of_getElem? (i := 230) rfl) rfl, mT3 (List.mem_of_getElem? (i := 232) rfl) rfl, mSel (q := (yX1_begin, 6)) (mP2 (List.mem_of_getElem? (i := 7) rfl)), lb_X1_begin⟩
set_option maxRecDepth 20000 in
theorem lk_X1_44 : LVt RX1 44 mX1_sizeOfSoup 0 := ⟨mT3 (List.mem_of_getElem? (i := 234) rfl) rfl, mT3 (List.mem_of_getElem? (i := 236) rfl) rfl, mSel (q := (yX1_sizeOfSoup, 6)) (mP2 (List.mem_of_getElem? (i := 8) rfl)), lb_X1_sizeOfSoup⟩
set_option maxRecDepth 20000 in
theorem lk_X1_61 : LVt RX1 61 mX1_sizeLent 0 := ⟨mT3 (List.mem_of_getElem? (i := 238) rfl) rfl, mT4 (List.mem_of_getElem? (i := 0) rfl) rfl, mSel (q := (yX1_sizeLent, 6)) (mP2 (List.mem_of_getElem? (i := 9) rfl)), lb_X1_sizeLent⟩
set_option maxRecDepth 20000 in
theorem lk_X1_55 : LVt RX1 55 mX1_markOfSoup 0 := ⟨mT4 (List.mem_of_getElem? (i := 2) rfl) rfl, mT4 (List.mem_of_getElem? (i := 4) rfl) rfl, mSel (q := (yX1_markOfSoup, 6)) (mP2 (List.mem_of_getElem? (i := 10) rfl)), lb_X1_markOfSoup⟩
set_option maxRecDepth 20000 in
theorem lk_X1_67 : LVt RX1 67 mX1_markOfAnySoup 0 := ⟨mT4 (List.mem_of_getElem? (i := 6) rfl) rfl, mT4 (List.mem_of_getElem? (i := 8) rfl) rfl, mSel (q := (yX1_markOfAnySoup, 6)) (mP2 (List.mem_of_getElem? (i := 11) rfl)), lb_X1_markOfAnySoup⟩
set_option maxRecDepth 20000 in
theorem lk_X1_70 : LVt RX1 70 mX1_markLent 0 := ⟨mT4 (List.mem_of_getElem? (i := 10) rfl) rfl, mT4 (List.mem_of_getElem? (i := 12) rfl) rfl, mSel (q := (yX1_markLent, 6)) (mP2 (List.mem_of_getElem? (i := 12) rfl)), lb_X1_markLent⟩
set_option maxRecDepth 20000 in
theorem lk_X1_48 : LSt RX1 48 mX6_isOfKind 2 := ⟨Or.inr ⟨"LentGrannies", List.mem_of_getElem? (i := 2) rfl⟩, mT3 (List.mem_of_getElem? (i := 214) rfl) rfl, lb_X6_isOfKind⟩
set_option maxRecDepth 20000 in
theorem lk_X1_52 : LVt RX1 52 mX1_sizeOfStern 0 := ⟨mT4 (List.mem_of_getElem? (i := 15) rfl) rfl, mT4 (List.mem_of_getElem? (i := 17) rfl) rfl, mSel (q := (yX1_sizeOfStern, 6)) (mP2 (List.mem_of_getElem? (i := 13) rfl)), lb_X1_sizeOfStern⟩
set_option maxRecDepth 20000 in
theorem lk_X1_64 : LVt RX1 64 mX1_sizeOfAnyStern 0 := ⟨mT4 (List.mem_of_getElem? (i := 19) rfl) rfl, mT4 (List.mem_of_getElem? (i := 21) rfl) rfl, mSel (q := (yX1_sizeOfAnyStern, 6)) (mP2 (List.mem_of_getElem? (i := 14) rfl)), lb_X1_sizeOfAnyStern⟩
set_option maxRecDepth 20000 in
theorem lk_X6_310 : LVt RX6 310 mX1_markAsked 0 := ⟨mT4 (List.mem_of_getElem? (i := 23) rfl) rfl, mT4 (List.mem_of_getElem? (i := 24) rfl) rfl, mT4 (List.mem_of_getElem? (i := 25) rfl) rfl, lb_X1_markAsked⟩
set_option maxRecDepth 20000 in
theorem lk_X1_58 : LVt RX1 58 mX1_markOfStern 0 := ⟨mT4 (List.mem_of_getElem? (i := 27) rfl) rfl, mT4 (List.mem_of_getElem? (i := 29) rfl) rfl, mSel (q := (yX1_markOfStern, 6)) (mP2 (List.mem_of_getElem? (i := 15) rfl)), lb_X1_markOfStern⟩
set_option maxRecDepth 20000 in
theorem lk_L_167 : LVt RL 167 mX6_trace 1 := ⟨mT4 (List.mem_of_getElem? (i := 31) rfl) rfl, mT4 (List.mem_of_getElem? (i := 32) rfl) rfl, mT4 (List.mem_of_getElem? (i := 33) rfl) rfl, lb_X6_trace⟩
set_option maxRecDepth 20000 in
theorem lk_L_171 : LVt RL 171 mX6_count 1 := ⟨mT4 (List.mem_of_getElem? (i := 35) rfl) rfl, mT4 (List.mem_of_getElem? (i := 36) rfl) rfl, mT4 (List.mem_of_getElem? (i := 37) rfl) rfl, lb_X6_count⟩
set_option maxRecDepth 20000 in
theorem lk_X6_317 : LVt RX6 317 mX4_rowsThere 0 := ⟨mT4 (List.mem_of_getElem? (i := 39) rfl) rfl, mT4 (List.mem_of_getElem? (i := 40) rfl) rfl, mT4 (List.mem_of_getElem? (i := 41) rfl) rfl, lb_X4_rowsThere⟩
set_option maxRecDepth 20000 in
theorem lk_L_175 : LVt RL 175 mX6_status 0 := ⟨mT4 (List.mem_of_getElem? (i := 43) rfl) rfl, mT4 (List.mem_of_getElem? (i := 44) rfl) rfl, mT4 (List.mem_of_getElem? (i := 45) rfl) rfl, lb_X6_status⟩
set_option maxRecDepth 20000 in
theorem lk_L_17 : LVt RL 17 mX7_row 3 := ⟨mT4 (List.mem_of_getElem? (i := 111) rfl) rfl, mT4 (List.mem_of_getElem? (i := 112) rfl) rfl, mT4 (List.mem_of_getElem? (i := 113) rfl) rfl, lb_X7_row⟩
set_option maxRecDepth 20000 in
theorem lk_X7_52 : LSt RX7 52 mX7_isRow 1 := ⟨Or.inl (mT4 (List.mem_of_getElem? (i := 115) rfl) rfl), mT4 (List.mem_of_getElem? (i := 116) rfl) rfl, lb_X7_isRow⟩
set_option maxRecDepth 20000 in
theorem lk_X7_48 : LSt RX7 48 mX7_in 3 := ⟨Or.inl (mT4 (List.mem_of_getElem? (i := 119) rfl) rfl), mT4 (List.mem_of_getElem? (i := 120) rfl) rfl, lb_X7_in⟩
set_option maxRecDepth 20000 in
theorem lk_X7_59 : LVt RX7 59 mX7_find 1 := ⟨mT4 (List.mem_of_getElem? (i := 124) rfl) rfl, mT4 (List.mem_of_getElem? (i := 126) rfl) rfl, mSel (q := (yX7_find, 19)) (mP3 (List.mem_of_getElem? (i := 0) rfl)), lb_X7_find⟩
set_option maxRecDepth 20000 in
theorem lk_X7_63 : LVt RX7 63 mX7_well 1 := ⟨mT4 (List.mem_of_getElem? (i := 129) rfl) rfl, mT4 (List.mem_of_getElem? (i := 131) rfl) rfl, mSel (q := (yX7_well, 19)) (mP3 (List.mem_of_getElem? (i := 1) rfl)), lb_X7_well⟩
set_option maxRecDepth 20000 in
theorem lk_L_21 : LVt RL 21 mX7_set 3 := ⟨mT4 (List.mem_of_getElem? (i := 133) rfl) rfl, mT4 (List.mem_of_getElem? (i := 134) rfl) rfl, mT4 (List.mem_of_getElem? (i := 135) rfl) rfl, lb_X7_set⟩
set_option maxRecDepth 20000 in
theorem lk_X7_66 : LSt RX7 66 mX7_narrow 2 := ⟨Or.inl (mT4 (List.mem_of_getElem? (i := 137) rfl) rfl), mT4 (List.mem_of_getElem? (i := 138) rfl) rfl, lb_X7_narrow⟩
set_option maxRecDepth 20000 in
theorem lk_L_26 : LVt RL 26 mX7_copy 5 := ⟨mT4 (List.mem_of_getElem? (i := 140) rfl) rfl, mT4 (List.mem_of_getElem? (i := 141) rfl) rfl, mT4 (List.mem_of_getElem? (i := 142) rfl) rfl, lb_X7_copy⟩
set_option maxRecDepth 20000 in
theorem lk_X7_70 : LVt RX7 70 mX7_isSpan 3 := ⟨mT4 (List.mem_of_getElem? (i := 144) rfl) rfl, mT4 (List.mem_of_getElem? (i := 146) rfl) rfl, mSel (q := (yX7_isSpan, 19)) (mP3 (List.mem_of_getElem? (i := 2) rfl)), lb_X7_isSpan⟩
set_option maxRecDepth 20000 in
theorem lk_L_31 : LVt RL 31 mX7_drop 1 := ⟨mT4 (List.mem_of_getElem? (i := 148) rfl) rfl, mT4 (List.mem_of_getElem? (i := 149) rfl) rfl, mT4 (List.mem_of_getElem? (i := 150) rfl) rfl, lb_X7_drop⟩
set_option maxRecDepth 20000 in
theorem lk_L_35 : LVt RL 35 mX7_feed 1 := ⟨mT4 (List.mem_of_getElem? (i := 152) rfl) rfl, mT4 (List.mem_of_getElem? (i := 153) rfl) rfl, mT4 (List.mem_of_getElem? (i := 154) rfl) rfl, lb_X7_feed⟩
set_option maxRecDepth 20000 in
theorem lk_L_40 : LVt RL 40 mX7_town 0 := ⟨mT4 (List.mem_of_getElem? (i := 158) rfl) rfl, mT4 (List.mem_of_getElem? (i := 159) rfl) rfl, mT4 (List.mem_of_getElem? (i := 160) rfl) rfl, lb_X7_town⟩
set_option maxRecDepth 20000 in
theorem lk_X7_125 : LVt RX7 125 mX7_reads 0 := ⟨mT4 (List.mem_of_getElem? (i := 162) rfl) rfl, mT4 (List.mem_of_getElem? (i := 164) rfl) rfl, mSel (q := (yX7_reads, 19)) (mP3 (List.mem_of_getElem? (i := 3) rfl)), lb_X7_reads⟩
set_option maxRecDepth 20000 in
theorem lk_X7_112 : LVt RX7 112 mX7_readsLaw 0 := ⟨mT4 (List.mem_of_getElem? (i := 166) rfl) rfl, mT4 (List.mem_of_getElem? (i := 168) rfl) rfl, mSel (q := (yX7_readsLaw, 19)) (mP3 (List.mem_of_getElem? (i := 4) rfl)), lb_X7_readsLaw⟩
set_option maxRecDepth 20000 in
theorem lk_X7_102 : LVt RX7 102 mX7_sign 1 := ⟨mT4 (List.mem_of_getElem? (i := 170) rfl) rfl, mT4 (List.mem_of_getElem? (i := 172) rfl) rfl, mSel (q := (yX7_sign, 19)) (mP3 (List.mem_of_getElem? (i := 5) rfl)), lb_X7_sign⟩
set_option maxRecDepth 20000 in
theorem lk_X7_90 : LVt RX7 90 mX7_isLetter 1 := ⟨mT4 (List.mem_of_getElem? (i := 174) rfl) rfl, mT4 (List.mem_of_getElem? (i := 176) rfl) rfl, mSel (q := (yX7_isLetter, 19)) (mP3 (List.mem_of_getElem? (i := 6) rfl)), lb_X7_isLetter⟩
set_option maxRecDepth 20000 in
theorem lk_X7_93 : LVt RX7 93 mX7_refuse 1 := ⟨mT4 (List.mem_of_getElem? (i := 178) rfl) rfl, mT4 (List.mem_of_getElem? (i := 180) rfl) rfl, mSel (q := (yX7_refuse, 19)) (mP3 (List.mem_of_getElem? (i := 7) rfl)), lb_X7_refuse⟩
set_option maxRecDepth 20000 in
theorem lk_X7_105 : LVt RX7 105 mX7_readsNumber 2 := ⟨mT4 (List.mem_of_getElem? (i := 182) rfl) rfl, mT4 (List.mem_of_getElem? (i := 184) rfl) rfl, mSel (q := (yX7_readsNumber, 19)) (mP3 (List.mem_of_getElem? (i := 8) rfl)), lb_X7_readsNumber⟩
set_option maxRecDepth 20000 in
theorem lk_X7_96 : LVt RX7 96 mX7_isFigure 1 := ⟨mT4 (List.mem_of_getElem? (i := 186) rfl) rfl, mT4 (List.mem_of_getElem? (i := 188) rfl) rfl, mSel (q := (yX7_isFigure, 19)) (mP3 (List.mem_of_getElem? (i := 9) rfl)), lb_X7_isFigure⟩
set_option maxRecDepth 20000 in
theorem lk_X7_116 : LVt RX7 116 mX7_readsChild 0 := ⟨mT4 (List.mem_of_getElem? (i := 192) rfl) rfl, mT4 (List.mem_of_getElem? (i := 194) rfl) rfl, mSel (q := (yX7_readsChild, 19)) (mP3 (List.mem_of_getElem? (i := 10) rfl)), lb_X7_readsChild⟩
set_option maxRecDepth 20000 in
theorem lk_X7_119 : LVt RX7 119 mX7_isSort 0 := ⟨mT4 (List.mem_of_getElem? (i := 196) rfl) rfl, mT4 (List.mem_of_getElem? (i := 198) rfl) rfl, mSel (q := (yX7_isSort, 19)) (mP3 (List.mem_of_getElem? (i := 11) rfl)), lb_X7_isSort⟩
set_option maxRecDepth 20000 in
theorem lk_X7_109 : LSt RX7 109 mX7_kindOfLetter 1 := ⟨Or.inl (mT4 (List.mem_of_getElem? (i := 200) rfl) rfl), mT4 (List.mem_of_getElem? (i := 201) rfl) rfl, lb_X7_kindOfLetter⟩
set_option maxRecDepth 20000 in
theorem lk_X7_122 : LVt RX7 122 mX7_readsGran 0 := ⟨mT4 (List.mem_of_getElem? (i := 203) rfl) rfl, mT4 (List.mem_of_getElem? (i := 205) rfl) rfl, mSel (q := (yX7_readsGran, 19)) (mP3 (List.mem_of_getElem? (i := 12) rfl)), lb_X7_readsGran⟩
set_option maxRecDepth 20000 in
theorem lk_X7_132 : LVt RX7 132 mX7_copyTown 2 := ⟨mT4 (List.mem_of_getElem? (i := 208) rfl) rfl, mT4 (List.mem_of_getElem? (i := 210) rfl) rfl, mSel (q := (yX7_copyTown, 19)) (mP3 (List.mem_of_getElem? (i := 13) rfl)), lb_X7_copyTown⟩
set_option maxRecDepth 20000 in
theorem lk_L_44 : LVt RL 44 mX7_fault 0 := ⟨mT4 (List.mem_of_getElem? (i := 212) rfl) rfl, mT4 (List.mem_of_getElem? (i := 213) rfl) rfl, mT4 (List.mem_of_getElem? (i := 214) rfl) rfl, lb_X7_fault⟩
set_option maxRecDepth 20000 in
theorem lk_L_48 : LVt RL 48 mX7_undo 0 := ⟨mT4 (List.mem_of_getElem? (i := 216) rfl) rfl, mT4 (List.mem_of_getElem? (i := 217) rfl) rfl, mT4 (List.mem_of_getElem? (i := 218) rfl) rfl, lb_X7_undo⟩
set_option maxRecDepth 20000 in
theorem lk_L_52 : LVt RL 52 mX7_days 1 := ⟨mT4 (List.mem_of_getElem? (i := 221) rfl) rfl, mT4 (List.mem_of_getElem? (i := 222) rfl) rfl, mT4 (List.mem_of_getElem? (i := 223) rfl) rfl, lb_X7_days⟩
set_option maxRecDepth 20000 in
theorem lk_X7_169 : LVt RX7 169 mX7_keepPast 0 := ⟨mT4 (List.mem_of_getElem? (i := 226) rfl) rfl, mT4 (List.mem_of_getElem? (i := 228) rfl) rfl, mSel (q := (yX7_keepPast, 19)) (mP3 (List.mem_of_getElem? (i := 14) rfl)), lb_X7_keepPast⟩
set_option maxRecDepth 20000 in
theorem lk_X7_172 : LVt RX7 172 mX7_pass 1 := ⟨mT4 (List.mem_of_getElem? (i := 230) rfl) rfl, mT4 (List.mem_of_getElem? (i := 232) rfl) rfl, mSel (q := (yX7_pass, 19)) (mP3 (List.mem_of_getElem? (i := 15) rfl)), lb_X7_pass⟩
set_option maxRecDepth 20000 in
theorem lk_X7_145 : LVt RX7 145 mX7_withOf 2 := ⟨mT4 (List.mem_of_getElem? (i := 234) rfl) rfl, mT4 (List.mem_of_getElem? (i := 236) rfl) rfl, mSel (q := (yX7_withOf, 19)) (mP4 (List.mem_of_getElem? (i := 0) rfl)), lb_X7_withOf⟩
set_option maxRecDepth 20000 in
theorem lk_X7_161 : LVt RX7 161 mX7_isLost 2 := ⟨mT4 (List.mem_of_getElem? (i := 239) rfl) rfl, mT5 (List.mem_of_getElem? (i := 1) rfl) rfl, mSel (q := (yX7_isLost, 19)) (mP4 (List.mem_of_getElem? (i := 1) rfl)), lb_X7_isLost⟩
set_option maxRecDepth 20000 in
theorem lk_X7_148 : LSt RX7 148 mX7_has 2 := ⟨Or.inl (mT5 (List.mem_of_getElem? (i := 3) rfl) rfl), mT5 (List.mem_of_getElem? (i := 4) rfl) rfl, lb_X7_has⟩
set_option maxRecDepth 20000 in
theorem lk_X7_164 : LVt RX7 164 mX7_brings 3 := ⟨mT5 (List.mem_of_getElem? (i := 6) rfl) rfl, mT5 (List.mem_of_getElem? (i := 8) rfl) rfl, mSel (q := (yX7_brings, 19)) (mP4 (List.mem_of_getElem? (i := 2) rfl)), lb_X7_brings⟩
set_option maxRecDepth 20000 in
theorem lk_X7_154 : LVt RX7 154 mX7_feeds 3 := ⟨mT5 (List.mem_of_getElem? (i := 10) rfl) rfl, mT5 (List.mem_of_getElem? (i := 12) rfl) rfl, mSel (q := (yX7_feeds, 19)) (mP4 (List.mem_of_getElem? (i := 3) rfl)), lb_X7_feeds⟩
set_option maxRecDepth 20000 in
theorem lk_X7_151 : LSt RX7 151 mX7_between 2 := ⟨Or.inl (mT5 (List.mem_of_getElem? (i := 14) rfl) rfl), mT5 (List.mem_of_getElem? (i := 15) rfl) rfl, lb_X7_between⟩
set_option maxRecDepth 20000 in
theorem lk_X7_158 : LVt RX7 158 mX7_spoils 3 := ⟨mT5 (List.mem_of_getElem? (i := 17) rfl) rfl, mT5 (List.mem_of_getElem? (i := 19) rfl) rfl, mSel (q := (yX7_spoils, 19)) (mP4 (List.mem_of_getElem? (i := 4) rfl)), lb_X7_spoils⟩
set_option maxRecDepth 20000 in
theorem lk_L_57 : LVt RL 57 mX7_sick 2 := ⟨mT5 (List.mem_of_getElem? (i := 21) rfl) rfl, mT5 (List.mem_of_getElem? (i := 22) rfl) rfl, mT5 (List.mem_of_getElem? (i := 23) rfl) rfl, lb_X7_sick⟩
set_option maxRecDepth 20000 in
theorem lk_X7_176 : LVt RX7 176 mX7_isGran 1 := ⟨mT5 (List.mem_of_getElem? (i := 25) rfl) rfl, mT5 (List.mem_of_getElem? (i := 27) rfl) rfl, mSel (q := (yX7_isGran, 19)) (mP4 (List.mem_of_getElem? (i := 5) rfl)), lb_X7_isGran⟩
set_option maxRecDepth 20000 in
theorem lk_X7_181 : LVt RX7 181 mX7_put 2 := ⟨mT5 (List.mem_of_getElem? (i := 30) rfl) rfl, mT5 (List.mem_of_getElem? (i := 32) rfl) rfl, mSel (q := (yX7_put, 19)) (mP4 (List.mem_of_getElem? (i := 6) rfl)), lb_X7_put⟩
set_option maxRecDepth 20000 in
theorem lk_L_61 : LVt RL 61 mX7_swap 2 := ⟨mT5 (List.mem_of_getElem? (i := 34) rfl) rfl, mT5 (List.mem_of_getElem? (i := 35) rfl) rfl, mT5 (List.mem_of_getElem? (i := 36) rfl) rfl, lb_X7_swap⟩
set_option maxRecDepth 20000 in
theorem lk_X7_184 : LVt RX7 184 mX7_isChild 1 := ⟨mT5 (List.mem_of_getElem? (i := 38) rfl) rfl, mT5 (List.mem_of_getElem? (i := 40) rfl) rfl, mSel (q := (yX7_isChild, 19)) (mP4 (List.mem_of_getElem? (i := 7) rfl)), lb_X7_isChild⟩
set_option maxRecDepth 20000 in
theorem lk_L_65 : LVt RL 65 mX7_pace 2 := ⟨mT5 (List.mem_of_getElem? (i := 42) rfl) rfl, mT5 (List.mem_of_getElem? (i := 43) rfl) rfl, mT5 (List.mem_of_getElem? (i := 44) rfl) rfl, lb_X7_pace⟩
set_option maxRecDepth 20000 in
theorem lk_L_69 : LVt RL 69 mX7_quarrel 3 := ⟨mT5 (List.mem_of_getElem? (i := 47) rfl) rfl, mT5 (List.mem_of_getElem? (i := 48) rfl) rfl, mT5 (List.mem_of_getElem? (i := 49) rfl) rfl, lb_X7_quarrel⟩
set_option maxRecDepth 20000 in
theorem lk_X7_189 : LVt RX7 189 mX7_areTwo 2 := ⟨mT5 (List.mem_of_getElem? (i := 51) rfl) rfl, mT5 (List.mem_of_getElem? (i := 53) rfl) rfl, mSel (q := (yX7_areTwo, 19)) (mP4 (List.mem_of_getElem? (i := 8) rfl)), lb_X7_areTwo⟩
set_option maxRecDepth 20000 in
theorem lk_L_73 : LVt RL 73 mX7_spoil 2 := ⟨mT5 (List.mem_of_getElem? (i := 55) rfl) rfl, mT5 (List.mem_of_getElem? (i := 56) rfl) rfl, mT5 (List.mem_of_getElem? (i := 57) rfl) rfl, lb_X7_spoil⟩
set_option maxRecDepth 20000 in
theorem lk_L_77 : LVt RL 77 mX7_gran 2 := ⟨mT5 (List.mem_of_getElem? (i := 60) rfl) rfl, mT5 (List.mem_of_getElem? (i := 61) rfl) rfl, mT5 (List.mem_of_getElem? (i := 62) rfl) rfl, lb_X7_gran⟩
set_option maxRecDepth 20000 in
theorem lk_L_81 : LVt RL 81 mX7_child 2 := ⟨mT5 (List.mem_of_getElem? (i := 64) rfl) rfl, mT5 (List.mem_of_getElem? (i := 65) rfl) rfl, mT5 (List.mem_of_getElem? (i := 66) rfl) rfl, lb_X7_child⟩
set_option maxRecDepth 20000 in
theorem lk_X7_194 : LVt RX7 194 mX7_visitors 1 := ⟨mT5 (List.mem_of_getElem? (i := 68) rfl) rfl, mT5 (List.mem_of_getElem? (i := 70) rfl) rfl, mSel (q := (yX7_visitors, 19)) (mP4 (List.mem_of_getElem? (i := 9) rfl)), lb_X7_visitors⟩
set_option maxRecDepth 20000 in
theorem lk_L_85 : LVt RL 85 mX7_ahead 3 := ⟨mT5 (List.mem_of_getElem? (i := 72) rfl) rfl, mT5 (List.mem_of_getElem? (i := 73) rfl) rfl, mT5 (List.mem_of_getElem? (i := 74) rfl) rfl, lb_X7_ahead⟩
set_option maxRecDepth 20000 in
theorem lk_X7_197 : LVt RX7 197 mX7_layTried 1 := ⟨mT5 (List.mem_of_getElem? (i := 76) rfl) rfl, mT5 (List.mem_of_getElem? (i := 78) rfl) rfl, mSel (q := (yX7_layTried, 19)) (mP4 (List.mem_of_getElem? (i := 10) rfl)), lb_X7_layTried⟩
set_option maxRecDepth 20000 in
theorem lk_L_89 : LVt RL 89 mX7_withWhom 2 := ⟨mT5 (List.mem_of_getElem? (i := 80) rfl) rfl, mT5 (List.mem_of_getElem? (i := 81) rfl) rfl, mT5 (List.mem_of_getElem? (i := 82) rfl) rfl, lb_X7_withWhom⟩
set_option maxRecDepth 20000 in
theorem lk_L_93 : LVt RL 93 mX7_whole 1 := ⟨mT5 (List.mem_of_getElem? (i := 84) rfl) rfl, mT5 (List.mem_of_getElem? (i := 85) rfl) rfl, mT5 (List.mem_of_getElem? (i := 86) rfl) rfl, lb_X7_whole⟩
set_option maxRecDepth 20000 in
theorem lk_X7_200 : LVt RX7 200 mX7_wholeTried 1 := ⟨mT5 (List.mem_of_getElem? (i := 88) rfl) rfl, mT5 (List.mem_of_getElem? (i := 90) rfl) rfl, mSel (q := (yX7_wholeTried, 19)) (mP4 (List.mem_of_getElem? (i := 11) rfl)), lb_X7_wholeTried⟩
set_option maxRecDepth 20000 in
theorem lk_L_97 : LVt RL 97 mX7_hungry 1 := ⟨mT5 (List.mem_of_getElem? (i := 92) rfl) rfl, mT5 (List.mem_of_getElem? (i := 93) rfl) rfl, mT5 (List.mem_of_getElem? (i := 94) rfl) rfl, lb_X7_hungry⟩
set_option maxRecDepth 20000 in
theorem lk_L_101 : LVt RL 101 mX7_without 1 := ⟨mT5 (List.mem_of_getElem? (i := 96) rfl) rfl, mT5 (List.mem_of_getElem? (i := 97) rfl) rfl, mT5 (List.mem_of_getElem? (i := 98) rfl) rfl, lb_X7_without⟩
set_option maxRecDepth 20000 in
theorem lk_X7_203 : LVt RX7 203 mX7_allChildren 0 := ⟨mT5 (List.mem_of_getElem? (i := 100) rfl) rfl, mT5 (List.mem_of_getElem? (i := 102) rfl) rfl, mSel (q := (yX7_allChildren, 19)) (mP4 (List.mem_of_getElem? (i := 12) rfl)), lb_X7_allChildren⟩
set_option maxRecDepth 20000 in
theorem lk_X7_207 : LVt RX7 207 mX7_visitedTried 1 := ⟨mT5 (List.mem_of_getElem? (i := 104) rfl) rfl, mT5 (List.mem_of_getElem? (i := 106) rfl) rfl, mSel (q := (yX7_visitedTried, 19)) (mP4 (List.mem_of_getElem? (i := 13) rfl)), lb_X7_visitedTried⟩
set_option maxRecDepth 20000 in
theorem lk_L_105 : LVt RL 105 mX7_rota 3 := ⟨mT5 (List.mem_of_getElem? (i := 108) rfl) rfl, mT5 (List.mem_of_getElem? (i := 109) rfl) rfl, mT5 (List.mem_of_getElem? (i := 110) rfl) rfl, lb_X7_rota⟩
set_option maxRecDepth 20000 in
theorem lk_X7_212 : LVt RX7 212 mX7_changes 0 := ⟨mT5 (List.mem_of_getElem? (i := 113) rfl) rfl, mT5 (List.mem_of_getElem? (i := 115) rfl) rfl, mSel (q := (yX7_changes, 19)) (mP4 (List.mem_of_getElem? (i := 14) rfl)), lb_X7_changes⟩
set_option maxRecDepth 20000 in
theorem lk_X7_215 : LVt RX7 215 mX7_servesAll 2 := ⟨mT5 (List.mem_of_getElem? (i := 117) rfl) rfl, mT5 (List.mem_of_getElem? (i := 119) rfl) rfl, mSel (q := (yX7_servesAll, 19)) (mP4 (List.mem_of_getElem? (i := 15) rfl)), lb_X7_servesAll⟩
set_option maxRecDepth 20000 in
theorem lk_X7_218 : LVt RX7 218 mX7_nextFirsts 0 := ⟨mT5 (List.mem_of_getElem? (i := 121) rfl) rfl, mT5 (List.mem_of_getElem? (i := 123) rfl) rfl, mSel (q := (yX7_nextFirsts, 19)) (mP5 (List.mem_of_getElem? (i := 0) rfl)), lb_X7_nextFirsts⟩
set_option maxRecDepth 20000 in
theorem lk_L_109 : LVt RL 109 mX7_meets 2 := ⟨mT5 (List.mem_of_getElem? (i := 125) rfl) rfl, mT5 (List.mem_of_getElem? (i := 126) rfl) rfl, mT5 (List.mem_of_getElem? (i := 127) rfl) rfl, lb_X7_meets⟩
set_option maxRecDepth 20000 in
theorem lk_L_113 : LVt RL 113 mX7_lost 1 := ⟨mT5 (List.mem_of_getElem? (i := 129) rfl) rfl, mT5 (List.mem_of_getElem? (i := 130) rfl) rfl, mT5 (List.mem_of_getElem? (i := 131) rfl) rfl, lb_X7_lost⟩
set_option maxRecDepth 20000 in
theorem lk_L_117 : LVt RL 117 mX7_swaps 2 := ⟨mT5 (List.mem_of_getElem? (i := 133) rfl) rfl, mT5 (List.mem_of_getElem? (i := 134) rfl) rfl, mT5 (List.mem_of_getElem? (i := 135) rfl) rfl, lb_X7_swaps⟩
set_option maxRecDepth 20000 in
theorem lk_X7_221 : LVt RX7 221 mX7_isBetter 3 := ⟨mT5 (List.mem_of_getElem? (i := 137) rfl) rfl, mT5 (List.mem_of_getElem? (i := 139) rfl) rfl, mSel (q := (yX7_isBetter, 19)) (mP5 (List.mem_of_getElem? (i := 1) rfl)), lb_X7_isBetter⟩
set_option maxRecDepth 20000 in
theorem lk_L_121 : LVt RL 121 mX7_soon 2 := ⟨mT5 (List.mem_of_getElem? (i := 141) rfl) rfl, mT5 (List.mem_of_getElem? (i := 142) rfl) rfl, mT5 (List.mem_of_getElem? (i := 143) rfl) rfl, lb_X7_soon⟩
set_option maxRecDepth 20000 in
theorem lk_L_125 : LVt RL 125 mX7_who 5 := ⟨mT5 (List.mem_of_getElem? (i := 145) rfl) rfl, mT5 (List.mem_of_getElem? (i := 146) rfl) rfl, mT5 (List.mem_of_getElem? (i := 147) rfl) rfl, lb_X7_who⟩
set_option maxRecDepth 20000 in
theorem lk_X7_226 : LVt RX7 226 mX7_noItems 5 := ⟨mT5 (List.mem_of_getElem? (i := 149) rfl) rfl, mT5 (List.mem_of_getElem? (i := 151) rfl) rfl, mSel (q := (yX7_noItems, 19)) (mP5 (List.mem_of_getElem? (i := 2) rfl)), lb_X7_noItems⟩
set_option maxRecDepth 20000 in
theorem lk_X7_230 : LVt RX7 230 mX7_isFedSo 6 := ⟨mT5 (List.mem_of_getElem? (i := 154) rfl) rfl, mT5 (List.mem_of_getElem? (i := 156) rfl) rfl, mSel (q := (yX7_isFedSo, 19)) (mP5 (List.mem_of_getElem? (i := 3) rfl)), lb_X7_isFedSo⟩
set_option maxRecDepth 20000 in
theorem lk_L_129 : LVt RL 129 mX7_firsts 5 := ⟨mT5 (List.mem_of_getElem? (i := 158) rfl) rfl, mT5 (List.mem_of_getElem? (i := 159) rfl) rfl, mT5 (List.mem_of_getElem? (i := 160) rfl) rfl, lb_X7_firsts⟩
set_option maxRecDepth 20000 in
theorem lk_L_133 : LVt RL 133 mX7_steps 5 := ⟨mT5 (List.mem_of_getElem? (i := 162) rfl) rfl, mT5 (List.mem_of_getElem? (i := 163) rfl) rfl, mT5 (List.mem_of_getElem? (i := 164) rfl) rfl, lb_X7_steps⟩
set_option maxRecDepth 20000 in
theorem lk_L_137 : LVt RL 137 mX7_even 1 := ⟨mT5 (List.mem_of_getElem? (i := 166) rfl) rfl, mT5 (List.mem_of_getElem? (i := 167) rfl) rfl, mT5 (List.mem_of_getElem? (i := 168) rfl) rfl, lb_X7_even⟩
set_option maxRecDepth 20000 in
theorem lk_L_142 : LVt RL 142 mX7_fever 3 := ⟨mT5 (List.mem_of_getElem? (i := 170) rfl) rfl, mT5 (List.mem_of_getElem? (i := 171) rfl) rfl, mT5 (List.mem_of_getElem? (i := 172) rfl) rfl, lb_X7_fever⟩
set_option maxRecDepth 20000 in
theorem lk_X7_238 : LVt RX7 238 mX7_isVisited 1 := ⟨mT5 (List.mem_of_getElem? (i := 176) rfl) rfl, mT5 (List.mem_of_getElem? (i := 178) rfl) rfl, mSel (q := (yX7_isVisited, 19)) (mP5 (List.mem_of_getElem? (i := 4) rfl)), lb_X7_isVisited⟩
set_option maxRecDepth 20000 in
theorem lk_L_146 : LVt RL 146 mX7_drawn 3 := ⟨mT5 (List.mem_of_getElem? (i := 180) rfl) rfl, mT5 (List.mem_of_getElem? (i := 181) rfl) rfl, mT5 (List.mem_of_getElem? (i := 182) rfl) rfl, lb_X7_drawn⟩
set_option maxRecDepth 20000 in
theorem lk_X7_249 : LVt RX7 249 mX7_sumOf 1 := ⟨mT5 (List.mem_of_getElem? (i := 188) rfl) rfl, mT5 (List.mem_of_getElem? (i := 190) rfl) rfl, mSel (q := (yX7_sumOf, 19)) (mP5 (List.mem_of_getElem? (i := 5) rfl)), lb_X7_sumOf⟩
set_option maxRecDepth 20000 in
theorem lk_L_150 : LVt RL 150 mX7_image 1 := ⟨mT5 (List.mem_of_getElem? (i := 192) rfl) rfl, mT5 (List.mem_of_getElem? (i := 193) rfl) rfl, mT5 (List.mem_of_getElem? (i := 194) rfl) rfl, lb_X7_image⟩
set_option maxRecDepth 20000 in
theorem lk_L_154 : LVt RL 154 mX7_restore 1 := ⟨mT5 (List.mem_of_getElem? (i := 196) rfl) rfl, mT5 (List.mem_of_getElem? (i := 197) rfl) rfl, mT5 (List.mem_of_getElem? (i := 198) rfl) rfl, lb_X7_restore⟩
set_option maxRecDepth 20000 in
theorem lk_L_158 : LVt RL 158 mX7_kind 1 := ⟨mT5 (List.mem_of_getElem? (i := 200) rfl) rfl, mT5 (List.mem_of_getElem? (i := 201) rfl) rfl, mT5 (List.mem_of_getElem? (i := 202) rfl) rfl, lb_X7_kind⟩
set_option maxRecDepth 20000 in
theorem lk_L_162 : LVt RL 162 mX7_as 2 := ⟨mT5 (List.mem_of_getElem? (i := 204) rfl) rfl, mT5 (List.mem_of_getElem? (i := 205) rfl) rfl, mT5 (List.mem_of_getElem? (i := 206) rfl) rfl, lb_X7_as⟩
set_option maxRecDepth 20000 in
theorem lk_X7_252 : LVt RX7 252 mX7_isOf 2 := ⟨mT5 (List.mem_of_getElem? (i := 208) rfl) rfl, mT5 (List.mem_of_getElem? (i := 210) rfl) rfl, mSel (q := (yX7_isOf, 19)) (mP5 (List.mem_of_getElem? (i := 6) rfl)), lb_X7_isOf⟩
set_option maxRecDepth 20000 in
theorem lk_L_166 : LVt RL 166 mX7_ask 2 := ⟨mT5 (List.mem_of_getElem? (i := 212) rfl) rfl, mT5 (List.mem_of_getElem? (i := 213) rfl) rfl, mT5 (List.mem_of_getElem? (i := 214) rfl) rfl, lb_X7_ask⟩
set_option maxRecDepth 20000 in
theorem lk_X7_279 : LVt RX7 279 mX7_sizeOf 1 := ⟨mT5 (List.mem_of_getElem? (i := 216) rfl) rfl, mT5 (List.mem_of_getElem? (i := 218) rfl) rfl, mSel (q := (yX7_sizeOf, 19)) (mP5 (List.mem_of_getElem? (i := 7) rfl)), lb_X7_sizeOf⟩
set_option maxRecDepth 20000 in
theorem lk_X7_258 : LVt RX7 258 mX7_begin 1 := ⟨mT5 (List.mem_of_getElem? (i := 220) rfl) rfl, mT5 (List.mem_of_getElem? (i := 222) rfl) rfl, mSel (q := (yX7_begin, 19)) (mP5 (List.mem_of_getElem? (i := 8) rfl)), lb_X7_begin⟩
set_option maxRecDepth 20000 in
theorem lk_X7_267 : LVt RX7 267 mX7_soupsSize 1 := ⟨mT5 (List.mem_of_getElem? (i := 224) rfl) rfl, mT5 (List.mem_of_getElem? (i := 226) rfl) rfl, mSel (q := (yX7_soupsSize, 19)) (mP5 (List.mem_of_getElem? (i := 9) rfl)), lb_X7_soupsSize⟩
set_option maxRecDepth 20000 in
theorem lk_X7_261 : LVt RX7 261 mX7_lentSize 1 := ⟨mT5 (List.mem_of_getElem? (i := 228) rfl) rfl, mT5 (List.mem_of_getElem? (i := 230) rfl) rfl, mSel (q := (yX7_lentSize, 19)) (mP5 (List.mem_of_getElem? (i := 10) rfl)), lb_X7_lentSize⟩
set_option maxRecDepth 20000 in
theorem lk_X7_264 : LVt RX7 264 mX7_mark 1 := ⟨mT5 (List.mem_of_getElem? (i := 232) rfl) rfl, mT5 (List.mem_of_getElem? (i := 234) rfl) rfl, mSel (q := (yX7_mark, 19)) (mP5 (List.mem_of_getElem? (i := 11) rfl)), lb_X7_mark⟩
set_option maxRecDepth 20000 in
theorem lk_X7_276 : LVt RX7 276 mX7_soupsMark 1 := ⟨mT5 (List.mem_of_getElem? (i := 236) rfl) rfl, mT5 (List.mem_of_getElem? (i := 238) rfl) rfl, mSel (q := (yX7_soupsMark, 19)) (mP5 (List.mem_of_getElem? (i := 12) rfl)), lb_X7_soupsMark⟩
set_option maxRecDepth 20000 in
theorem lk_X7_273 : LVt RX7 273 mX7_lentMark 1 := ⟨mT6 (List.mem_of_getElem? (i := 0) rfl) rfl, mT6 (List.mem_of_getElem? (i := 2) rfl) rfl, mSel (q := (yX7_lentMark, 19)) (mP5 (List.mem_of_getElem? (i := 13) rfl)), lb_X7_lentMark⟩
set_option maxRecDepth 20000 in
theorem lk_X7_270 : LVt RX7 270 mX7_sternSize 1 := ⟨mT6 (List.mem_of_getElem? (i := 4) rfl) rfl, mT6 (List.mem_of_getElem? (i := 6) rfl) rfl, mSel (q := (yX7_sternSize, 19)) (mP5 (List.mem_of_getElem? (i := 14) rfl)), lb_X7_sternSize⟩
set_option maxRecDepth 20000 in
theorem lk_X7_282 : LVt RX7 282 mX7_sternMark 1 := ⟨mT6 (List.mem_of_getElem? (i := 8) rfl) rfl, mT6 (List.mem_of_getElem? (i := 10) rfl) rfl, mSel (q := (yX7_sternMark, 19)) (mP5 (List.mem_of_getElem? (i := 15) rfl)), lb_X7_sternMark⟩
set_option maxRecDepth 20000 in
theorem lk_L_170 : LVt RL 170 mX7_trace 1 := ⟨mT6 (List.mem_of_getElem? (i := 12) rfl) rfl, mT6 (List.mem_of_getElem? (i := 13) rfl) rfl, mT6 (List.mem_of_getElem? (i := 14) rfl) rfl, lb_X7_trace⟩
set_option maxRecDepth 20000 in
theorem lk_L_174 : LVt RL 174 mX7_count 1 := ⟨mT6 (List.mem_of_getElem? (i := 16) rfl) rfl, mT6 (List.mem_of_getElem? (i := 17) rfl) rfl, mT6 (List.mem_of_getElem? (i := 18) rfl) rfl, lb_X7_count⟩
set_option maxRecDepth 20000 in
theorem lk_L_178 : LVt RL 178 mX7_status 0 := ⟨mT6 (List.mem_of_getElem? (i := 20) rfl) rfl, mT6 (List.mem_of_getElem? (i := 21) rfl) rfl, mT6 (List.mem_of_getElem? (i := 22) rfl) rfl, lb_X7_status⟩
set_option maxRecDepth 20000 in
theorem lk_X4_34 : Cond.methodLink RX4 34 arraycopyName ∈ wAll ∧ Cond.native arraycopyName ∈ wAll ∧ Cond.static arraycopyName ∈ wAll ∧ Cond.initialized "java/lang/System" ∈ wAll := ⟨mT2 (List.mem_of_getElem? (i := 84) rfl) rfl, mT2 (List.mem_of_getElem? (i := 86) rfl) rfl, mT2 (List.mem_of_getElem? (i := 85) rfl) rfl, mT1 (List.mem_of_getElem? (i := 9) rfl) rfl⟩
set_option maxRecDepth 20000 in
theorem lk_X5_96 : Cond.methodLink RX5 96 Lib.Math.min.name ∈ wAll ∧ Cond.static Lib.Math.min.name ∈ wAll ∧ Cond.initialized "java/lang/Math" ∈ wAll ∧ Cond.code Lib.Math.min.name Lib.Math.min.code 2 (some .int) ∈ wAll := ⟨mT2 (List.mem_of_getElem? (i := 214) rfl) rfl, mT2 (List.mem_of_getElem? (i := 215) rfl) rfl, mT1 (List.mem_of_getElem? (i := 10) rfl) rfl, mT2 (List.mem_of_getElem? (i := 216) rfl) rfl⟩
set_option maxRecDepth 20000 in
theorem lk_X5_88 : Cond.methodLink RX5 88 Lib.Math.max.name ∈ wAll ∧ Cond.static Lib.Math.max.name ∈ wAll ∧ Cond.initialized "java/lang/Math" ∈ wAll ∧ Cond.code Lib.Math.max.name Lib.Math.max.code 2 (some .int) ∈ wAll := ⟨mT2 (List.mem_of_getElem? (i := 217) rfl) rfl, mT2 (List.mem_of_getElem? (i := 218) rfl) rfl, mT1 (List.mem_of_getElem? (i := 10) rfl) rfl, mT2 (List.mem_of_getElem? (i := 219) rfl) rfl⟩
set_option maxRecDepth 20000 in
theorem lk_X3_66 : Cond.methodLink RX3 66 Lib.Math.max.name ∈ wAll ∧ Cond.static Lib.Math.max.name ∈ wAll ∧ Cond.initialized "java/lang/Math" ∈ wAll ∧ Cond.code Lib.Math.max.name Lib.Math.max.code 2 (some .int) ∈ wAll := ⟨mT3 (List.mem_of_getElem? (i := 89) rfl) rfl, mT2 (List.mem_of_getElem? (i := 218) rfl) rfl, mT1 (List.mem_of_getElem? (i := 10) rfl) rfl, mT2 (List.mem_of_getElem? (i := 219) rfl) rfl⟩
set_option maxRecDepth 20000 in
theorem lk_X3_43 : Cond.methodLink RX3 43 Lib.Math.min.name ∈ wAll ∧ Cond.static Lib.Math.min.name ∈ wAll ∧ Cond.initialized "java/lang/Math" ∈ wAll ∧ Cond.code Lib.Math.min.name Lib.Math.min.code 2 (some .int) ∈ wAll := ⟨mT3 (List.mem_of_getElem? (i := 90) rfl) rfl, mT2 (List.mem_of_getElem? (i := 215) rfl) rfl, mT1 (List.mem_of_getElem? (i := 10) rfl) rfl, mT2 (List.mem_of_getElem? (i := 216) rfl) rfl⟩
set_option maxRecDepth 20000 in
theorem lk_X6_241 : Cond.methodLink RX6 241 arraycopyName ∈ wAll ∧ Cond.native arraycopyName ∈ wAll ∧ Cond.static arraycopyName ∈ wAll ∧ Cond.initialized "java/lang/System" ∈ wAll := ⟨mT3 (List.mem_of_getElem? (i := 124) rfl) rfl, mT2 (List.mem_of_getElem? (i := 86) rfl) rfl, mT2 (List.mem_of_getElem? (i := 85) rfl) rfl, mT1 (List.mem_of_getElem? (i := 9) rfl) rfl⟩
set_option maxRecDepth 20000 in
theorem lk_X6_263 : Cond.methodLink RX6 263 Lib.Math.max.name ∈ wAll ∧ Cond.static Lib.Math.max.name ∈ wAll ∧ Cond.initialized "java/lang/Math" ∈ wAll ∧ Cond.code Lib.Math.max.name Lib.Math.max.code 2 (some .int) ∈ wAll := ⟨mT3 (List.mem_of_getElem? (i := 161) rfl) rfl, mT2 (List.mem_of_getElem? (i := 218) rfl) rfl, mT1 (List.mem_of_getElem? (i := 10) rfl) rfl, mT2 (List.mem_of_getElem? (i := 219) rfl) rfl⟩
set_option maxRecDepth 20000 in
theorem lk_X6_268 : Cond.methodLink RX6 268 Lib.Math.min.name ∈ wAll ∧ Cond.static Lib.Math.min.name ∈ wAll ∧ Cond.initialized "java/lang/Math" ∈ wAll ∧ Cond.code Lib.Math.min.name Lib.Math.min.code 2 (some .int) ∈ wAll := ⟨mT3 (List.mem_of_getElem? (i := 162) rfl) rfl, mT2 (List.mem_of_getElem? (i := 215) rfl) rfl, mT1 (List.mem_of_getElem? (i := 10) rfl) rfl, mT2 (List.mem_of_getElem? (i := 216) rfl) rfl⟩
set_option maxRecDepth 20000 in
theorem lk_X6_327 : Cond.methodLink RX6 327 Lib.MathLoose.max_long.x ∈ wAll ∧ Cond.static Lib.MathLoose.max_long.x ∈ wAll ∧ Cond.initialized "java/lang/Math" ∈ wAll ∧ Cond.code Lib.MathLoose.max_long.x Lib.MathLoose.max_long.code 4 (some .long) ∈ wAll := ⟨mT3 (List.mem_of_getElem? (i := 178) rfl) rfl, mT3 (List.mem_of_getElem? (i := 179) rfl) rfl, mT1 (List.mem_of_getElem? (i := 10) rfl) rfl, mT3 (List.mem_of_getElem? (i := 180) rfl) rfl⟩
set_option maxRecDepth 20000 in
theorem in_0 : ∀ w ∈ u_ws RX0 TX0 3, w ∈ wAll := by
  intro w hw
  obtain ⟨k, hk, rfl⟩ := List.mem_map.mp hw
  have hk := List.mem_range.mp hk
  exact match k, hk with
    | 0, _ => mT1 (List.mem_of_getElem? (i := 167) rfl) rfl
    | 1, _ => mT1 (List.mem_of_getElem? (i := 169) rfl) rfl
    | 2, _ => mT1 (List.mem_of_getElem? (i := 171) rfl) rfl
    | k + 3, h => absurd h (by omega)
set_option maxRecDepth 20000 in
theorem in_1 : ∀ w ∈ u_ws RX1 TX1 6, w ∈ wAll := by
  intro w hw
  obtain ⟨k, hk, rfl⟩ := List.mem_map.mp hw
  have hk := List.mem_range.mp hk
  exact match k, hk with
    | 0, _ => mT1 (List.mem_of_getElem? (i := 189) rfl) rfl
    | 1, _ => mT1 (List.mem_of_getElem? (i := 191) rfl) rfl
    | 2, _ => mT1 (List.mem_of_getElem? (i := 193) rfl) rfl
    | 3, _ => mT1 (List.mem_of_getElem? (i := 195) rfl) rfl
    | 4, _ => mT1 (List.mem_of_getElem? (i := 197) rfl) rfl
    | 5, _ => mT1 (List.mem_of_getElem? (i := 199) rfl) rfl
    | k + 6, h => absurd h (by omega)
set_option maxRecDepth 20000 in
theorem in_2 : ∀ w ∈ u_ws RX2 TX2 6, w ∈ wAll := by
  intro w hw
  obtain ⟨k, hk, rfl⟩ := List.mem_map.mp hw
  have hk := List.mem_range.mp hk
  exact match k, hk with
    | 0, _ => mT1 (List.mem_of_getElem? (i := 141) rfl) rfl
    | 1, _ => mT1 (List.mem_of_getElem? (i := 143) rfl) rfl
    | 2, _ => mT1 (List.mem_of_getElem? (i := 145) rfl) rfl
    | 3, _ => mT1 (List.mem_of_getElem? (i := 147) rfl) rfl
    | 4, _ => mT1 (List.mem_of_getElem? (i := 149) rfl) rfl
    | 5, _ => mT1 (List.mem_of_getElem? (i := 151) rfl) rfl
    | k + 6, h => absurd h (by omega)
set_option maxRecDepth 20000 in
theorem in_3 : ∀ w ∈ u_ws RX3 TX3 6, w ∈ wAll := by
  intro w hw
  obtain ⟨k, hk, rfl⟩ := List.mem_map.mp hw
  have hk := List.mem_range.mp hk
  exact match k, hk with
    | 0, _ => mT1 (List.mem_of_getElem? (i := 218) rfl) rfl
    | 1, _ => mT1 (List.mem_of_getElem? (i := 220) rfl) rfl
    | 2, _ => mT1 (List.mem_of_getElem? (i := 222) rfl) rfl
    | 3, _ => mT1 (List.mem_of_getElem? (i := 224) rfl) rfl
    | 4, _ => mT1 (List.mem_of_getElem? (i := 226) rfl) rfl
    | 5, _ => mT1 (List.mem_of_getElem? (i := 228) rfl) rfl
    | k + 6, h => absurd h (by omega)
set_option maxRecDepth 20000 in
theorem in_4 : ∀ w ∈ u_ws RX4 TX4 3, w ∈ wAll := by
  intro w hw
  obtain ⟨k, hk, rfl⟩ := List.mem_map.mp hw
  have hk := List.mem_range.mp hk
  exact match k, hk with
    | 0, _ => mT1 (List.mem_of_getElem? (i := 31) rfl) rfl
    | 1, _ => mT1 (List.mem_of_getElem? (i := 33) rfl) rfl
    | 2, _ => mT1 (List.mem_of_getElem? (i := 35) rfl) rfl
    | k + 3, h => absurd h (by omega)
set_option maxRecDepth 20000 in
theorem in_5 : ∀ w ∈ u_ws RX5 TX5 16, w ∈ wAll := by
  intro w hw
  obtain ⟨k, hk, rfl⟩ := List.mem_map.mp hw
  have hk := List.mem_range.mp hk
  exact match k, hk with
    | 0, _ => mT1 (List.mem_of_getElem? (i := 99) rfl) rfl
    | 1, _ => mT1 (List.mem_of_getElem? (i := 101) rfl) rfl
    | 2, _ => mT1 (List.mem_of_getElem? (i := 103) rfl) rfl
    | 3, _ => mT1 (List.mem_of_getElem? (i := 105) rfl) rfl
    | 4, _ => mT1 (List.mem_of_getElem? (i := 107) rfl) rfl
    | 5, _ => mT1 (List.mem_of_getElem? (i := 109) rfl) rfl
    | 6, _ => mT1 (List.mem_of_getElem? (i := 111) rfl) rfl
    | 7, _ => mT1 (List.mem_of_getElem? (i := 113) rfl) rfl
    | 8, _ => mT1 (List.mem_of_getElem? (i := 115) rfl) rfl
    | 9, _ => mT1 (List.mem_of_getElem? (i := 117) rfl) rfl
    | 10, _ => mT1 (List.mem_of_getElem? (i := 119) rfl) rfl
    | 11, _ => mT1 (List.mem_of_getElem? (i := 121) rfl) rfl
    | 12, _ => mT1 (List.mem_of_getElem? (i := 123) rfl) rfl
    | 13, _ => mT1 (List.mem_of_getElem? (i := 125) rfl) rfl
    | 14, _ => mT1 (List.mem_of_getElem? (i := 127) rfl) rfl
    | 15, _ => mT1 (List.mem_of_getElem? (i := 129) rfl) rfl
    | k + 16, h => absurd h (by omega)
set_option maxRecDepth 20000 in
theorem in_6 : ∀ w ∈ u_ws RX6 TX6 13, w ∈ wAll := by
  intro w hw
  obtain ⟨k, hk, rfl⟩ := List.mem_map.mp hw
  have hk := List.mem_range.mp hk
  exact match k, hk with
    | 0, _ => mT2 (List.mem_of_getElem? (i := 4) rfl) rfl
    | 1, _ => mT2 (List.mem_of_getElem? (i := 6) rfl) rfl
    | 2, _ => mT2 (List.mem_of_getElem? (i := 8) rfl) rfl
    | 3, _ => mT2 (List.mem_of_getElem? (i := 10) rfl) rfl
    | 4, _ => mT2 (List.mem_of_getElem? (i := 12) rfl) rfl
    | 5, _ => mT2 (List.mem_of_getElem? (i := 14) rfl) rfl
    | 6, _ => mT2 (List.mem_of_getElem? (i := 16) rfl) rfl
    | 7, _ => mT2 (List.mem_of_getElem? (i := 18) rfl) rfl
    | 8, _ => mT2 (List.mem_of_getElem? (i := 20) rfl) rfl
    | 9, _ => mT2 (List.mem_of_getElem? (i := 22) rfl) rfl
    | 10, _ => mT2 (List.mem_of_getElem? (i := 24) rfl) rfl
    | 11, _ => mT2 (List.mem_of_getElem? (i := 26) rfl) rfl
    | 12, _ => mT2 (List.mem_of_getElem? (i := 28) rfl) rfl
    | k + 13, h => absurd h (by omega)
set_option maxRecDepth 20000 in
theorem in_7 : ∀ w ∈ u_ws RX7 TX7 19, w ∈ wAll := by
  intro w hw
  obtain ⟨k, hk, rfl⟩ := List.mem_map.mp hw
  have hk := List.mem_range.mp hk
  exact match k, hk with
    | 0, _ => mT4 (List.mem_of_getElem? (i := 72) rfl) rfl
    | 1, _ => mT4 (List.mem_of_getElem? (i := 74) rfl) rfl
    | 2, _ => mT4 (List.mem_of_getElem? (i := 76) rfl) rfl
    | 3, _ => mT4 (List.mem_of_getElem? (i := 78) rfl) rfl
    | 4, _ => mT4 (List.mem_of_getElem? (i := 80) rfl) rfl
    | 5, _ => mT4 (List.mem_of_getElem? (i := 82) rfl) rfl
    | 6, _ => mT4 (List.mem_of_getElem? (i := 84) rfl) rfl
    | 7, _ => mT4 (List.mem_of_getElem? (i := 86) rfl) rfl
    | 8, _ => mT4 (List.mem_of_getElem? (i := 88) rfl) rfl
    | 9, _ => mT4 (List.mem_of_getElem? (i := 90) rfl) rfl
    | 10, _ => mT4 (List.mem_of_getElem? (i := 92) rfl) rfl
    | 11, _ => mT4 (List.mem_of_getElem? (i := 94) rfl) rfl
    | 12, _ => mT4 (List.mem_of_getElem? (i := 96) rfl) rfl
    | 13, _ => mT4 (List.mem_of_getElem? (i := 98) rfl) rfl
    | 14, _ => mT4 (List.mem_of_getElem? (i := 100) rfl) rfl
    | 15, _ => mT4 (List.mem_of_getElem? (i := 102) rfl) rfl
    | 16, _ => mT4 (List.mem_of_getElem? (i := 104) rfl) rfl
    | 17, _ => mT4 (List.mem_of_getElem? (i := 106) rfl) rfl
    | 18, _ => mT4 (List.mem_of_getElem? (i := 108) rfl) rfl
    | k + 19, h => absurd h (by omega)
set_option maxRecDepth 20000 in
theorem fk_X4_11 : FK RX4 11 4 0 := ⟨RX4, TX4, 3, tyX4, rfl, in_4, by decide, mT1 (List.mem_of_getElem? (i := 28) rfl) rfl, rfl, tyX4_ok, nmX4⟩
set_option maxRecDepth 20000 in
theorem fk_X4_16 : FK RX4 16 4 1 := ⟨RX4, TX4, 3, tyX4, rfl, in_4, by decide, mT1 (List.mem_of_getElem? (i := 29) rfl) rfl, rfl, tyX4_ok, nmX4⟩
set_option maxRecDepth 20000 in
theorem fk_X4_20 : FK RX4 20 4 2 := ⟨RX4, TX4, 3, tyX4, rfl, in_4, by decide, mT1 (List.mem_of_getElem? (i := 30) rfl) rfl, rfl, tyX4_ok, nmX4⟩
set_option maxRecDepth 20000 in
theorem fk_X2_58 : FK RX2 58 5 0 := ⟨RX5, TX5, 16, tyX5, rfl, in_5, by decide, mT1 (List.mem_of_getElem? (i := 51) rfl) rfl, rfl, tyX5_ok, nmX5⟩
theorem fp_X2_58 : FP RX2 58 5 0 .int := ⟨fk_X2_58, fun q hq => by cases hq; exact ⟨rfl, by decide +kernel⟩⟩
set_option maxRecDepth 20000 in
theorem fk_X5_52 : FK RX5 52 5 0 := ⟨RX5, TX5, 16, tyX5, rfl, in_5, by decide, mT1 (List.mem_of_getElem? (i := 52) rfl) rfl, rfl, tyX5_ok, nmX5⟩
theorem fp_X5_52 : FP RX5 52 5 0 .int := ⟨fk_X5_52, fun q hq => by cases hq; exact ⟨rfl, by decide +kernel⟩⟩
set_option maxRecDepth 20000 in
theorem fk_X2_61 : FK RX2 61 5 1 := ⟨RX5, TX5, 16, tyX5, rfl, in_5, by decide, mT1 (List.mem_of_getElem? (i := 53) rfl) rfl, rfl, tyX5_ok, nmX5⟩
theorem fp_X2_61 : FP RX2 61 5 1 .int := ⟨fk_X2_61, fun q hq => by cases hq; exact ⟨rfl, by decide +kernel⟩⟩
set_option maxRecDepth 20000 in
theorem fk_X5_55 : FK RX5 55 5 1 := ⟨RX5, TX5, 16, tyX5, rfl, in_5, by decide, mT1 (List.mem_of_getElem? (i := 54) rfl) rfl, rfl, tyX5_ok, nmX5⟩
theorem fp_X5_55 : FP RX5 55 5 1 .int := ⟨fk_X5_55, fun q hq => by cases hq; exact ⟨rfl, by decide +kernel⟩⟩
set_option maxRecDepth 20000 in
theorem fk_X5_45 : FK RX5 45 5 2 := ⟨RX5, TX5, 16, tyX5, rfl, in_5, by decide, mT1 (List.mem_of_getElem? (i := 55) rfl) rfl, rfl, tyX5_ok, nmX5⟩
theorem fp_X5_45 : FP RX5 45 5 2 .int := ⟨fk_X5_45, fun q hq => by cases hq; exact ⟨rfl, by decide +kernel⟩⟩
set_option maxRecDepth 20000 in
theorem fk_X3_40 : FK RX3 40 5 2 := ⟨RX5, TX5, 16, tyX5, rfl, in_5, by decide, mT1 (List.mem_of_getElem? (i := 56) rfl) rfl, rfl, tyX5_ok, nmX5⟩
theorem fp_X3_40 : FP RX3 40 5 2 .int := ⟨fk_X3_40, fun q hq => by cases hq; exact ⟨rfl, by decide +kernel⟩⟩
set_option maxRecDepth 20000 in
theorem fk_X2_35 : FK RX2 35 5 2 := ⟨RX5, TX5, 16, tyX5, rfl, in_5, by decide, mT1 (List.mem_of_getElem? (i := 57) rfl) rfl, rfl, tyX5_ok, nmX5⟩
theorem fp_X2_35 : FP RX2 35 5 2 .int := ⟨fk_X2_35, fun q hq => by cases hq; exact ⟨rfl, by decide +kernel⟩⟩
set_option maxRecDepth 20000 in
theorem fk_X6_260 : FK RX6 260 5 2 := ⟨RX5, TX5, 16, tyX5, rfl, in_5, by decide, mT1 (List.mem_of_getElem? (i := 58) rfl) rfl, rfl, tyX5_ok, nmX5⟩
theorem fp_X6_260 : FP RX6 260 5 2 .int := ⟨fk_X6_260, fun q hq => by cases hq; exact ⟨rfl, by decide +kernel⟩⟩
set_option maxRecDepth 20000 in
theorem fk_X3_55 : FK RX3 55 5 3 := ⟨RX5, TX5, 16, tyX5, rfl, in_5, by decide, mT1 (List.mem_of_getElem? (i := 59) rfl) rfl, rfl, tyX5_ok, nmX5⟩
theorem fp_X3_55 : FP RX3 55 5 3 .int := ⟨fk_X3_55, fun q hq => by cases hq; exact ⟨rfl, by decide +kernel⟩⟩
set_option maxRecDepth 20000 in
theorem fk_X5_49 : FK RX5 49 5 3 := ⟨RX5, TX5, 16, tyX5, rfl, in_5, by decide, mT1 (List.mem_of_getElem? (i := 60) rfl) rfl, rfl, tyX5_ok, nmX5⟩
theorem fp_X5_49 : FP RX5 49 5 3 .int := ⟨fk_X5_49, fun q hq => by cases hq; exact ⟨rfl, by decide +kernel⟩⟩
set_option maxRecDepth 20000 in
theorem fk_X2_38 : FK RX2 38 5 3 := ⟨RX5, TX5, 16, tyX5, rfl, in_5, by decide, mT1 (List.mem_of_getElem? (i := 61) rfl) rfl, rfl, tyX5_ok, nmX5⟩
theorem fp_X2_38 : FP RX2 38 5 3 .int := ⟨fk_X2_38, fun q hq => by cases hq; exact ⟨rfl, by decide +kernel⟩⟩
set_option maxRecDepth 20000 in
theorem fk_X6_143 : FK RX6 143 5 3 := ⟨RX5, TX5, 16, tyX5, rfl, in_5, by decide, mT1 (List.mem_of_getElem? (i := 62) rfl) rfl, rfl, tyX5_ok, nmX5⟩
theorem fp_X6_143 : FP RX6 143 5 3 .int := ⟨fk_X6_143, fun q hq => by cases hq; exact ⟨rfl, by decide +kernel⟩⟩
set_option maxRecDepth 20000 in
theorem fk_X5_58 : FK RX5 58 5 4 := ⟨RX5, TX5, 16, tyX5, rfl, in_5, by decide, mT1 (List.mem_of_getElem? (i := 63) rfl) rfl, rfl, tyX5_ok, nmX5⟩
theorem fp_X5_58 : FP RX5 58 5 4 .int := ⟨fk_X5_58, fun q hq => by cases hq; exact ⟨rfl, by decide +kernel⟩⟩
set_option maxRecDepth 20000 in
theorem fk_X6_158 : FK RX6 158 5 4 := ⟨RX5, TX5, 16, tyX5, rfl, in_5, by decide, mT1 (List.mem_of_getElem? (i := 64) rfl) rfl, rfl, tyX5_ok, nmX5⟩
theorem fp_X6_158 : FP RX6 158 5 4 .int := ⟨fk_X6_158, fun q hq => by cases hq; exact ⟨rfl, by decide +kernel⟩⟩
set_option maxRecDepth 20000 in
theorem fk_X5_9 : FK RX5 9 5 5 := ⟨RX5, TX5, 16, tyX5, rfl, in_5, by decide, mT1 (List.mem_of_getElem? (i := 65) rfl) rfl, rfl, tyX5_ok, nmX5⟩
set_option maxRecDepth 20000 in
theorem fk_X2_68 : FK RX2 68 5 5 := ⟨RX5, TX5, 16, tyX5, rfl, in_5, by decide, mT1 (List.mem_of_getElem? (i := 66) rfl) rfl, rfl, tyX5_ok, nmX5⟩
set_option maxRecDepth 20000 in
theorem fk_X6_203 : FK RX6 203 5 5 := ⟨RX5, TX5, 16, tyX5, rfl, in_5, by decide, mT1 (List.mem_of_getElem? (i := 67) rfl) rfl, rfl, tyX5_ok, nmX5⟩
set_option maxRecDepth 20000 in
theorem fk_X5_15 : FK RX5 15 5 6 := ⟨RX5, TX5, 16, tyX5, rfl, in_5, by decide, mT1 (List.mem_of_getElem? (i := 68) rfl) rfl, rfl, tyX5_ok, nmX5⟩
set_option maxRecDepth 20000 in
theorem fk_X2_71 : FK RX2 71 5 6 := ⟨RX5, TX5, 16, tyX5, rfl, in_5, by decide, mT1 (List.mem_of_getElem? (i := 69) rfl) rfl, rfl, tyX5_ok, nmX5⟩
set_option maxRecDepth 20000 in
theorem fk_X6_190 : FK RX6 190 5 6 := ⟨RX5, TX5, 16, tyX5, rfl, in_5, by decide, mT1 (List.mem_of_getElem? (i := 70) rfl) rfl, rfl, tyX5_ok, nmX5⟩
set_option maxRecDepth 20000 in
theorem fk_X5_18 : FK RX5 18 5 7 := ⟨RX5, TX5, 16, tyX5, rfl, in_5, by decide, mT1 (List.mem_of_getElem? (i := 71) rfl) rfl, rfl, tyX5_ok, nmX5⟩
set_option maxRecDepth 20000 in
theorem fk_X2_74 : FK RX2 74 5 7 := ⟨RX5, TX5, 16, tyX5, rfl, in_5, by decide, mT1 (List.mem_of_getElem? (i := 72) rfl) rfl, rfl, tyX5_ok, nmX5⟩
set_option maxRecDepth 20000 in
theorem fk_X6_206 : FK RX6 206 5 7 := ⟨RX5, TX5, 16, tyX5, rfl, in_5, by decide, mT1 (List.mem_of_getElem? (i := 73) rfl) rfl, rfl, tyX5_ok, nmX5⟩
set_option maxRecDepth 20000 in
theorem fk_X5_21 : FK RX5 21 5 8 := ⟨RX5, TX5, 16, tyX5, rfl, in_5, by decide, mT1 (List.mem_of_getElem? (i := 74) rfl) rfl, rfl, tyX5_ok, nmX5⟩
set_option maxRecDepth 20000 in
theorem fk_X1_22 : FK RX1 22 5 8 := ⟨RX5, TX5, 16, tyX5, rfl, in_5, by decide, mT1 (List.mem_of_getElem? (i := 75) rfl) rfl, rfl, tyX5_ok, nmX5⟩
set_option maxRecDepth 20000 in
theorem fk_X2_80 : FK RX2 80 5 8 := ⟨RX5, TX5, 16, tyX5, rfl, in_5, by decide, mT1 (List.mem_of_getElem? (i := 76) rfl) rfl, rfl, tyX5_ok, nmX5⟩
set_option maxRecDepth 20000 in
theorem fk_X6_253 : FK RX6 253 5 8 := ⟨RX5, TX5, 16, tyX5, rfl, in_5, by decide, mT1 (List.mem_of_getElem? (i := 77) rfl) rfl, rfl, tyX5_ok, nmX5⟩
set_option maxRecDepth 20000 in
theorem fk_X5_24 : FK RX5 24 5 9 := ⟨RX5, TX5, 16, tyX5, rfl, in_5, by decide, mT1 (List.mem_of_getElem? (i := 78) rfl) rfl, rfl, tyX5_ok, nmX5⟩
set_option maxRecDepth 20000 in
theorem fk_X1_30 : FK RX1 30 5 9 := ⟨RX5, TX5, 16, tyX5, rfl, in_5, by decide, mT1 (List.mem_of_getElem? (i := 79) rfl) rfl, rfl, tyX5_ok, nmX5⟩
set_option maxRecDepth 20000 in
theorem fk_X2_86 : FK RX2 86 5 9 := ⟨RX5, TX5, 16, tyX5, rfl, in_5, by decide, mT1 (List.mem_of_getElem? (i := 80) rfl) rfl, rfl, tyX5_ok, nmX5⟩
set_option maxRecDepth 20000 in
theorem fk_X6_193 : FK RX6 193 5 9 := ⟨RX5, TX5, 16, tyX5, rfl, in_5, by decide, mT1 (List.mem_of_getElem? (i := 81) rfl) rfl, rfl, tyX5_ok, nmX5⟩
set_option maxRecDepth 20000 in
theorem fk_X5_27 : FK RX5 27 5 10 := ⟨RX5, TX5, 16, tyX5, rfl, in_5, by decide, mT1 (List.mem_of_getElem? (i := 82) rfl) rfl, rfl, tyX5_ok, nmX5⟩
set_option maxRecDepth 20000 in
theorem fk_X1_35 : FK RX1 35 5 10 := ⟨RX5, TX5, 16, tyX5, rfl, in_5, by decide, mT1 (List.mem_of_getElem? (i := 83) rfl) rfl, rfl, tyX5_ok, nmX5⟩
set_option maxRecDepth 20000 in
theorem fk_X3_69 : FK RX3 69 5 10 := ⟨RX5, TX5, 16, tyX5, rfl, in_5, by decide, mT1 (List.mem_of_getElem? (i := 84) rfl) rfl, rfl, tyX5_ok, nmX5⟩
set_option maxRecDepth 20000 in
theorem fk_X2_89 : FK RX2 89 5 10 := ⟨RX5, TX5, 16, tyX5, rfl, in_5, by decide, mT1 (List.mem_of_getElem? (i := 85) rfl) rfl, rfl, tyX5_ok, nmX5⟩
set_option maxRecDepth 20000 in
theorem fk_X6_177 : FK RX6 177 5 10 := ⟨RX5, TX5, 16, tyX5, rfl, in_5, by decide, mT1 (List.mem_of_getElem? (i := 86) rfl) rfl, rfl, tyX5_ok, nmX5⟩
set_option maxRecDepth 20000 in
theorem fk_X5_30 : FK RX5 30 5 11 := ⟨RX5, TX5, 16, tyX5, rfl, in_5, by decide, mT1 (List.mem_of_getElem? (i := 87) rfl) rfl, rfl, tyX5_ok, nmX5⟩
set_option maxRecDepth 20000 in
theorem fk_X2_92 : FK RX2 92 5 11 := ⟨RX5, TX5, 16, tyX5, rfl, in_5, by decide, mT1 (List.mem_of_getElem? (i := 88) rfl) rfl, rfl, tyX5_ok, nmX5⟩
set_option maxRecDepth 20000 in
theorem fk_X6_180 : FK RX6 180 5 11 := ⟨RX5, TX5, 16, tyX5, rfl, in_5, by decide, mT1 (List.mem_of_getElem? (i := 89) rfl) rfl, rfl, tyX5_ok, nmX5⟩
set_option maxRecDepth 20000 in
theorem fk_X5_33 : FK RX5 33 5 12 := ⟨RX5, TX5, 16, tyX5, rfl, in_5, by decide, mT1 (List.mem_of_getElem? (i := 90) rfl) rfl, rfl, tyX5_ok, nmX5⟩
set_option maxRecDepth 20000 in
theorem fk_X3_63 : FK RX3 63 5 12 := ⟨RX5, TX5, 16, tyX5, rfl, in_5, by decide, mT1 (List.mem_of_getElem? (i := 91) rfl) rfl, rfl, tyX5_ok, nmX5⟩
set_option maxRecDepth 20000 in
theorem fk_X2_95 : FK RX2 95 5 12 := ⟨RX5, TX5, 16, tyX5, rfl, in_5, by decide, mT1 (List.mem_of_getElem? (i := 92) rfl) rfl, rfl, tyX5_ok, nmX5⟩
set_option maxRecDepth 20000 in
theorem fk_X6_171 : FK RX6 171 5 12 := ⟨RX5, TX5, 16, tyX5, rfl, in_5, by decide, mT1 (List.mem_of_getElem? (i := 93) rfl) rfl, rfl, tyX5_ok, nmX5⟩
set_option maxRecDepth 20000 in
theorem fk_X5_36 : FK RX5 36 5 13 := ⟨RX5, TX5, 16, tyX5, rfl, in_5, by decide, mT1 (List.mem_of_getElem? (i := 94) rfl) rfl, rfl, tyX5_ok, nmX5⟩
set_option maxRecDepth 20000 in
theorem fk_X2_98 : FK RX2 98 5 13 := ⟨RX5, TX5, 16, tyX5, rfl, in_5, by decide, mT1 (List.mem_of_getElem? (i := 95) rfl) rfl, rfl, tyX5_ok, nmX5⟩
set_option maxRecDepth 20000 in
theorem fk_X6_183 : FK RX6 183 5 13 := ⟨RX5, TX5, 16, tyX5, rfl, in_5, by decide, mT1 (List.mem_of_getElem? (i := 96) rfl) rfl, rfl, tyX5_ok, nmX5⟩
set_option maxRecDepth 20000 in
theorem fk_X5_39 : FK RX5 39 5 14 := ⟨RX5, TX5, 16, tyX5, rfl, in_5, by decide, mT1 (List.mem_of_getElem? (i := 97) rfl) rfl, rfl, tyX5_ok, nmX5⟩
set_option maxRecDepth 20000 in
theorem fk_X5_42 : FK RX5 42 5 15 := ⟨RX5, TX5, 16, tyX5, rfl, in_5, by decide, mT1 (List.mem_of_getElem? (i := 98) rfl) rfl, rfl, tyX5_ok, nmX5⟩
set_option maxRecDepth 20000 in
theorem fk_X2_12 : FK RX2 12 2 0 := ⟨RX2, TX2, 6, tyX2, rfl, in_2, by decide, mT1 (List.mem_of_getElem? (i := 132) rfl) rfl, rfl, tyX2_ok, nmX2⟩
set_option maxRecDepth 20000 in
theorem fk_X6_130 : FK RX6 130 2 0 := ⟨RX2, TX2, 6, tyX2, rfl, in_2, by decide, mT1 (List.mem_of_getElem? (i := 133) rfl) rfl, rfl, tyX2_ok, nmX2⟩
set_option maxRecDepth 20000 in
theorem fk_X2_22 : FK RX2 22 2 1 := ⟨RX2, TX2, 6, tyX2, rfl, in_2, by decide, mT1 (List.mem_of_getElem? (i := 134) rfl) rfl, rfl, tyX2_ok, nmX2⟩
theorem fp_X2_22 : FP RX2 22 2 1 .int := ⟨fk_X2_22, fun q hq => by cases hq; exact ⟨rfl, by decide +kernel⟩⟩
set_option maxRecDepth 20000 in
theorem fk_X6_115 : FK RX6 115 2 1 := ⟨RX2, TX2, 6, tyX2, rfl, in_2, by decide, mT1 (List.mem_of_getElem? (i := 135) rfl) rfl, rfl, tyX2_ok, nmX2⟩
theorem fp_X6_115 : FP RX6 115 2 1 .int := ⟨fk_X6_115, fun q hq => by cases hq; exact ⟨rfl, by decide +kernel⟩⟩
set_option maxRecDepth 20000 in
theorem fk_X2_32 : FK RX2 32 2 2 := ⟨RX2, TX2, 6, tyX2, rfl, in_2, by decide, mT1 (List.mem_of_getElem? (i := 136) rfl) rfl, rfl, tyX2_ok, nmX2⟩
theorem fp_X2_32 : FP RX2 32 2 2 .int := ⟨fk_X2_32, fun q hq => by cases hq; exact ⟨rfl, by decide +kernel⟩⟩
set_option maxRecDepth 20000 in
theorem fk_X6_127 : FK RX6 127 2 2 := ⟨RX2, TX2, 6, tyX2, rfl, in_2, by decide, mT1 (List.mem_of_getElem? (i := 137) rfl) rfl, rfl, tyX2_ok, nmX2⟩
theorem fp_X6_127 : FP RX6 127 2 2 .int := ⟨fk_X6_127, fun q hq => by cases hq; exact ⟨rfl, by decide +kernel⟩⟩
set_option maxRecDepth 20000 in
theorem fk_X2_18 : FK RX2 18 2 3 := ⟨RX2, TX2, 6, tyX2, rfl, in_2, by decide, mT1 (List.mem_of_getElem? (i := 138) rfl) rfl, rfl, tyX2_ok, nmX2⟩
set_option maxRecDepth 20000 in
theorem fk_X2_26 : FK RX2 26 2 4 := ⟨RX2, TX2, 6, tyX2, rfl, in_2, by decide, mT1 (List.mem_of_getElem? (i := 139) rfl) rfl, rfl, tyX2_ok, nmX2⟩
theorem fp_X2_26 : FP RX2 26 2 4 .int := ⟨fk_X2_26, fun q hq => by cases hq; exact ⟨rfl, by decide +kernel⟩⟩
set_option maxRecDepth 20000 in
theorem fk_X2_29 : FK RX2 29 2 5 := ⟨RX2, TX2, 6, tyX2, rfl, in_2, by decide, mT1 (List.mem_of_getElem? (i := 140) rfl) rfl, rfl, tyX2_ok, nmX2⟩
theorem fp_X2_29 : FP RX2 29 2 5 .int := ⟨fk_X2_29, fun q hq => by cases hq; exact ⟨rfl, by decide +kernel⟩⟩
set_option maxRecDepth 20000 in
theorem fk_X0_13 : FK RX0 13 0 0 := ⟨RX0, TX0, 3, tyX0, rfl, in_0, by decide, mT1 (List.mem_of_getElem? (i := 163) rfl) rfl, rfl, tyX0_ok, nmX0⟩
set_option maxRecDepth 20000 in
theorem fk_X0_22 : FK RX0 22 0 1 := ⟨RX0, TX0, 3, tyX0, rfl, in_0, by decide, mT1 (List.mem_of_getElem? (i := 164) rfl) rfl, rfl, tyX0_ok, nmX0⟩
theorem fp_X0_22 : FP RX0 22 0 1 .int := ⟨fk_X0_22, fun q hq => by cases hq; exact ⟨rfl, by decide +kernel⟩⟩
set_option maxRecDepth 20000 in
theorem fk_X0_18 : FK RX0 18 0 2 := ⟨RX0, TX0, 3, tyX0, rfl, in_0, by decide, mT1 (List.mem_of_getElem? (i := 165) rfl) rfl, rfl, tyX0_ok, nmX0⟩
theorem fp_X0_18 : FP RX0 18 0 2 .int := ⟨fk_X0_18, fun q hq => by cases hq; exact ⟨rfl, by decide +kernel⟩⟩
set_option maxRecDepth 20000 in
theorem fk_X6_150 : FK RX6 150 0 2 := ⟨RX0, TX0, 3, tyX0, rfl, in_0, by decide, mT1 (List.mem_of_getElem? (i := 166) rfl) rfl, rfl, tyX0_ok, nmX0⟩
theorem fp_X6_150 : FP RX6 150 0 2 .int := ⟨fk_X6_150, fun q hq => by cases hq; exact ⟨rfl, by decide +kernel⟩⟩
set_option maxRecDepth 20000 in
theorem fk_X1_9 : FK RX1 9 1 0 := ⟨RX1, TX1, 6, tyX1, rfl, in_1, by decide, mT1 (List.mem_of_getElem? (i := 181) rfl) rfl, rfl, tyX1_ok, nmX1⟩
set_option maxRecDepth 20000 in
theorem fk_X6_314 : FK RX6 314 1 0 := ⟨RX1, TX1, 6, tyX1, rfl, in_1, by decide, mT1 (List.mem_of_getElem? (i := 182) rfl) rfl, rfl, tyX1_ok, nmX1⟩
set_option maxRecDepth 20000 in
theorem fk_X1_15 : FK RX1 15 1 1 := ⟨RX1, TX1, 6, tyX1, rfl, in_1, by decide, mT1 (List.mem_of_getElem? (i := 183) rfl) rfl, rfl, tyX1_ok, nmX1⟩
theorem fp_X1_15 : FP RX1 15 1 1 .int := ⟨fk_X1_15, fun q hq => by cases hq; exact ⟨rfl, by decide +kernel⟩⟩
set_option maxRecDepth 20000 in
theorem fk_X6_313 : FK RX6 313 1 1 := ⟨RX1, TX1, 6, tyX1, rfl, in_1, by decide, mT1 (List.mem_of_getElem? (i := 184) rfl) rfl, rfl, tyX1_ok, nmX1⟩
theorem fp_X6_313 : FP RX6 313 1 1 .int := ⟨fk_X6_313, fun q hq => by cases hq; exact ⟨rfl, by decide +kernel⟩⟩
set_option maxRecDepth 20000 in
theorem fk_X1_19 : FK RX1 19 1 2 := ⟨RX1, TX1, 6, tyX1, rfl, in_1, by decide, mT1 (List.mem_of_getElem? (i := 185) rfl) rfl, rfl, tyX1_ok, nmX1⟩
theorem fp_X1_19 : FP RX1 19 1 2 .int := ⟨fk_X1_19, fun q hq => by cases hq; exact ⟨rfl, by decide +kernel⟩⟩
set_option maxRecDepth 20000 in
theorem fk_X1_27 : FK RX1 27 1 3 := ⟨RX1, TX1, 6, tyX1, rfl, in_1, by decide, mT1 (List.mem_of_getElem? (i := 186) rfl) rfl, rfl, tyX1_ok, nmX1⟩
theorem fp_X1_27 : FP RX1 27 1 3 .int := ⟨fk_X1_27, fun q hq => by cases hq; exact ⟨rfl, by decide +kernel⟩⟩
set_option maxRecDepth 20000 in
theorem fk_X1_33 : FK RX1 33 1 4 := ⟨RX1, TX1, 6, tyX1, rfl, in_1, by decide, mT1 (List.mem_of_getElem? (i := 187) rfl) rfl, rfl, tyX1_ok, nmX1⟩
theorem fp_X1_33 : FP RX1 33 1 4 .int := ⟨fk_X1_33, fun q hq => by cases hq; exact ⟨rfl, by decide +kernel⟩⟩
set_option maxRecDepth 20000 in
theorem fk_X1_38 : FK RX1 38 1 5 := ⟨RX1, TX1, 6, tyX1, rfl, in_1, by decide, mT1 (List.mem_of_getElem? (i := 188) rfl) rfl, rfl, tyX1_ok, nmX1⟩
theorem fp_X1_38 : FP RX1 38 1 5 .int := ⟨fk_X1_38, fun q hq => by cases hq; exact ⟨rfl, by decide +kernel⟩⟩
set_option maxRecDepth 20000 in
theorem fk_X3_12 : FK RX3 12 3 0 := ⟨RX3, TX3, 6, tyX3, rfl, in_3, by decide, mT1 (List.mem_of_getElem? (i := 211) rfl) rfl, rfl, tyX3_ok, nmX3⟩
set_option maxRecDepth 20000 in
theorem fk_X6_233 : FK RX6 233 3 0 := ⟨RX3, TX3, 6, tyX3, rfl, in_3, by decide, mT1 (List.mem_of_getElem? (i := 212) rfl) rfl, rfl, tyX3_ok, nmX3⟩
set_option maxRecDepth 20000 in
theorem fk_X3_18 : FK RX3 18 3 1 := ⟨RX3, TX3, 6, tyX3, rfl, in_3, by decide, mT1 (List.mem_of_getElem? (i := 213) rfl) rfl, rfl, tyX3_ok, nmX3⟩
set_option maxRecDepth 20000 in
theorem fk_X3_22 : FK RX3 22 3 2 := ⟨RX3, TX3, 6, tyX3, rfl, in_3, by decide, mT1 (List.mem_of_getElem? (i := 214) rfl) rfl, rfl, tyX3_ok, nmX3⟩
set_option maxRecDepth 20000 in
theorem fk_X3_25 : FK RX3 25 3 3 := ⟨RX3, TX3, 6, tyX3, rfl, in_3, by decide, mT1 (List.mem_of_getElem? (i := 215) rfl) rfl, rfl, tyX3_ok, nmX3⟩
set_option maxRecDepth 20000 in
theorem fk_X3_32 : FK RX3 32 3 4 := ⟨RX3, TX3, 6, tyX3, rfl, in_3, by decide, mT1 (List.mem_of_getElem? (i := 216) rfl) rfl, rfl, tyX3_ok, nmX3⟩
theorem fp_X3_32 : FP RX3 32 3 4 .int := ⟨fk_X3_32, fun q hq => by cases hq; exact ⟨rfl, by decide +kernel⟩⟩
set_option maxRecDepth 20000 in
theorem fk_X3_49 : FK RX3 49 3 5 := ⟨RX3, TX3, 6, tyX3, rfl, in_3, by decide, mT1 (List.mem_of_getElem? (i := 217) rfl) rfl, rfl, tyX3_ok, nmX3⟩
theorem fp_X3_49 : FP RX3 49 3 5 .int := ⟨fk_X3_49, fun q hq => by cases hq; exact ⟨rfl, by decide +kernel⟩⟩
set_option maxRecDepth 20000 in
theorem fk_X6_10 : FK RX6 10 6 0 := ⟨RX6, TX6, 13, tyX6, rfl, in_6, by decide, mT1 (List.mem_of_getElem? (i := 231) rfl) rfl, rfl, tyX6_ok, nmX6⟩
set_option maxRecDepth 20000 in
theorem fk_X6_19 : FK RX6 19 6 1 := ⟨RX6, TX6, 13, tyX6, rfl, in_6, by decide, mT1 (List.mem_of_getElem? (i := 232) rfl) rfl, rfl, tyX6_ok, nmX6⟩
set_option maxRecDepth 20000 in
theorem fk_X6_26 : FK RX6 26 6 2 := ⟨RX6, TX6, 13, tyX6, rfl, in_6, by decide, mT1 (List.mem_of_getElem? (i := 233) rfl) rfl, rfl, tyX6_ok, nmX6⟩
set_option maxRecDepth 20000 in
theorem fk_X6_30 : FK RX6 30 6 3 := ⟨RX6, TX6, 13, tyX6, rfl, in_6, by decide, mT1 (List.mem_of_getElem? (i := 234) rfl) rfl, rfl, tyX6_ok, nmX6⟩
set_option maxRecDepth 20000 in
theorem fk_X6_33 : FK RX6 33 6 4 := ⟨RX6, TX6, 13, tyX6, rfl, in_6, by decide, mT1 (List.mem_of_getElem? (i := 235) rfl) rfl, rfl, tyX6_ok, nmX6⟩
set_option maxRecDepth 20000 in
theorem fk_X6_37 : FK RX6 37 6 5 := ⟨RX6, TX6, 13, tyX6, rfl, in_6, by decide, mT1 (List.mem_of_getElem? (i := 236) rfl) rfl, rfl, tyX6_ok, nmX6⟩
set_option maxRecDepth 20000 in
theorem fk_X6_43 : FK RX6 43 6 6 := ⟨RX6, TX6, 13, tyX6, rfl, in_6, by decide, mT1 (List.mem_of_getElem? (i := 237) rfl) rfl, rfl, tyX6_ok, nmX6⟩
set_option maxRecDepth 20000 in
theorem fk_X6_49 : FK RX6 49 6 7 := ⟨RX6, TX6, 13, tyX6, rfl, in_6, by decide, mT1 (List.mem_of_getElem? (i := 238) rfl) rfl, rfl, tyX6_ok, nmX6⟩
set_option maxRecDepth 20000 in
theorem fk_X6_52 : FK RX6 52 6 8 := ⟨RX6, TX6, 13, tyX6, rfl, in_6, by decide, mT1 (List.mem_of_getElem? (i := 239) rfl) rfl, rfl, tyX6_ok, nmX6⟩
set_option maxRecDepth 20000 in
theorem fk_X6_59 : FK RX6 59 6 9 := ⟨RX6, TX6, 13, tyX6, rfl, in_6, by decide, mT2 (List.mem_of_getElem? (i := 0) rfl) rfl, rfl, tyX6_ok, nmX6⟩
set_option maxRecDepth 20000 in
theorem fk_X6_66 : FK RX6 66 6 10 := ⟨RX6, TX6, 13, tyX6, rfl, in_6, by decide, mT2 (List.mem_of_getElem? (i := 1) rfl) rfl, rfl, tyX6_ok, nmX6⟩
set_option maxRecDepth 20000 in
theorem fk_X6_123 : FK RX6 123 6 11 := ⟨RX6, TX6, 13, tyX6, rfl, in_6, by decide, mT2 (List.mem_of_getElem? (i := 2) rfl) rfl, rfl, tyX6_ok, nmX6⟩
theorem fp_X6_123 : FP RX6 123 6 11 .int := ⟨fk_X6_123, fun q hq => by cases hq; exact ⟨rfl, by decide +kernel⟩⟩
set_option maxRecDepth 20000 in
theorem fk_X6_87 : FK RX6 87 6 12 := ⟨RX6, TX6, 13, tyX6, rfl, in_6, by decide, mT2 (List.mem_of_getElem? (i := 3) rfl) rfl, rfl, tyX6_ok, nmX6⟩
theorem fp_X6_87 : FP RX6 87 6 12 .int := ⟨fk_X6_87, fun q hq => by cases hq; exact ⟨rfl, by decide +kernel⟩⟩
set_option maxRecDepth 20000 in
theorem fs_X6_324 : Cond.fieldLink RX6 324 "LentGrannies" "KIND_ABOVE" "[I" ∈ wAll := mT3 (List.mem_of_getElem? (i := 216) rfl) rfl
set_option maxRecDepth 20000 in
theorem fk_X7_7 : FK RX7 7 7 0 := ⟨RX7, TX7, 19, tyX7, rfl, in_7, by decide, mT4 (List.mem_of_getElem? (i := 53) rfl) rfl, rfl, tyX7_ok, nmX7⟩
set_option maxRecDepth 20000 in
theorem fk_X7_136 : FK RX7 136 7 1 := ⟨RX7, TX7, 19, tyX7, rfl, in_7, by decide, mT4 (List.mem_of_getElem? (i := 54) rfl) rfl, rfl, tyX7_ok, nmX7⟩
theorem fp_X7_136 : FP RX7 136 7 1 .boolean := ⟨fk_X7_136, fun q hq => by cases hq; exact ⟨rfl, by decide +kernel⟩⟩
set_option maxRecDepth 20000 in
theorem fk_X7_140 : FK RX7 140 7 2 := ⟨RX7, TX7, 19, tyX7, rfl, in_7, by decide, mT4 (List.mem_of_getElem? (i := 55) rfl) rfl, rfl, tyX7_ok, nmX7⟩
theorem fp_X7_140 : FP RX7 140 7 2 .int := ⟨fk_X7_140, fun q hq => by cases hq; exact ⟨rfl, by decide +kernel⟩⟩
set_option maxRecDepth 20000 in
theorem fk_X7_13 : FK RX7 13 7 3 := ⟨RX7, TX7, 19, tyX7, rfl, in_7, by decide, mT4 (List.mem_of_getElem? (i := 56) rfl) rfl, rfl, tyX7_ok, nmX7⟩
set_option maxRecDepth 20000 in
theorem fk_X7_17 : FK RX7 17 7 4 := ⟨RX7, TX7, 19, tyX7, rfl, in_7, by decide, mT4 (List.mem_of_getElem? (i := 57) rfl) rfl, rfl, tyX7_ok, nmX7⟩
set_option maxRecDepth 20000 in
theorem fk_X7_20 : FK RX7 20 7 5 := ⟨RX7, TX7, 19, tyX7, rfl, in_7, by decide, mT4 (List.mem_of_getElem? (i := 58) rfl) rfl, rfl, tyX7_ok, nmX7⟩
set_option maxRecDepth 20000 in
theorem fk_X7_23 : FK RX7 23 7 6 := ⟨RX7, TX7, 19, tyX7, rfl, in_7, by decide, mT4 (List.mem_of_getElem? (i := 59) rfl) rfl, rfl, tyX7_ok, nmX7⟩
set_option maxRecDepth 20000 in
theorem fk_X7_26 : FK RX7 26 7 7 := ⟨RX7, TX7, 19, tyX7, rfl, in_7, by decide, mT4 (List.mem_of_getElem? (i := 60) rfl) rfl, rfl, tyX7_ok, nmX7⟩
set_option maxRecDepth 20000 in
theorem fk_X7_76 : FK RX7 76 7 8 := ⟨RX7, TX7, 19, tyX7, rfl, in_7, by decide, mT4 (List.mem_of_getElem? (i := 61) rfl) rfl, rfl, tyX7_ok, nmX7⟩
theorem fp_X7_76 : FP RX7 76 7 8 .int := ⟨fk_X7_76, fun q hq => by cases hq; exact ⟨rfl, by decide +kernel⟩⟩
set_option maxRecDepth 20000 in
theorem fk_X7_128 : FK RX7 128 7 9 := ⟨RX7, TX7, 19, tyX7, rfl, in_7, by decide, mT4 (List.mem_of_getElem? (i := 62) rfl) rfl, rfl, tyX7_ok, nmX7⟩
theorem fp_X7_128 : FP RX7 128 7 9 .int := ⟨fk_X7_128, fun q hq => by cases hq; exact ⟨rfl, by decide +kernel⟩⟩
set_option maxRecDepth 20000 in
theorem fk_X7_41 : FK RX7 41 7 10 := ⟨RX7, TX7, 19, tyX7, rfl, in_7, by decide, mT4 (List.mem_of_getElem? (i := 63) rfl) rfl, rfl, tyX7_ok, nmX7⟩
theorem fp_X7_41 : FP RX7 41 7 10 .int := ⟨fk_X7_41, fun q hq => by cases hq; exact ⟨rfl, by decide +kernel⟩⟩
set_option maxRecDepth 20000 in
theorem fk_X7_29 : FK RX7 29 7 11 := ⟨RX7, TX7, 19, tyX7, rfl, in_7, by decide, mT4 (List.mem_of_getElem? (i := 64) rfl) rfl, rfl, tyX7_ok, nmX7⟩
set_option maxRecDepth 20000 in
theorem fk_X7_255 : FK RX7 255 7 12 := ⟨RX7, TX7, 19, tyX7, rfl, in_7, by decide, mT4 (List.mem_of_getElem? (i := 65) rfl) rfl, rfl, tyX7_ok, nmX7⟩
theorem fp_X7_255 : FP RX7 255 7 12 .int := ⟨fk_X7_255, fun q hq => by cases hq; exact ⟨rfl, by decide +kernel⟩⟩
set_option maxRecDepth 20000 in
theorem fk_X7_80 : FK RX7 80 7 13 := ⟨RX7, TX7, 19, tyX7, rfl, in_7, by decide, mT4 (List.mem_of_getElem? (i := 66) rfl) rfl, rfl, tyX7_ok, nmX7⟩
theorem fp_X7_80 : FP RX7 80 7 13 .int := ⟨fk_X7_80, fun q hq => by cases hq; exact ⟨rfl, by decide +kernel⟩⟩
set_option maxRecDepth 20000 in
theorem fk_X7_87 : FK RX7 87 7 14 := ⟨RX7, TX7, 19, tyX7, rfl, in_7, by decide, mT4 (List.mem_of_getElem? (i := 67) rfl) rfl, rfl, tyX7_ok, nmX7⟩
theorem fp_X7_87 : FP RX7 87 7 14 .int := ⟨fk_X7_87, fun q hq => by cases hq; exact ⟨rfl, by decide +kernel⟩⟩
set_option maxRecDepth 20000 in
theorem fk_X7_99 : FK RX7 99 7 15 := ⟨RX7, TX7, 19, tyX7, rfl, in_7, by decide, mT4 (List.mem_of_getElem? (i := 68) rfl) rfl, rfl, tyX7_ok, nmX7⟩
theorem fp_X7_99 : FP RX7 99 7 15 .int := ⟨fk_X7_99, fun q hq => by cases hq; exact ⟨rfl, by decide +kernel⟩⟩
set_option maxRecDepth 20000 in
theorem fk_X7_32 : FK RX7 32 7 16 := ⟨RX7, TX7, 19, tyX7, rfl, in_7, by decide, mT4 (List.mem_of_getElem? (i := 69) rfl) rfl, rfl, tyX7_ok, nmX7⟩
set_option maxRecDepth 20000 in
theorem fk_X7_35 : FK RX7 35 7 17 := ⟨RX7, TX7, 19, tyX7, rfl, in_7, by decide, mT4 (List.mem_of_getElem? (i := 70) rfl) rfl, rfl, tyX7_ok, nmX7⟩
set_option maxRecDepth 20000 in
theorem fk_X7_38 : FK RX7 38 7 18 := ⟨RX7, TX7, 19, tyX7, rfl, in_7, by decide, mT4 (List.mem_of_getElem? (i := 71) rfl) rfl, rfl, tyX7_ok, nmX7⟩
set_option maxRecDepth 20000 in
theorem kn_X6_78 : Cond.constant RX6 78 (kBAD) ∈ wAll := mT2 (List.mem_of_getElem? (i := 42) rfl) rfl
set_option maxRecDepth 20000 in
theorem kn_X6_320 : Cond.constant RX6 320 (kFOUND) ∈ wAll := mT2 (List.mem_of_getElem? (i := 47) rfl) rfl
set_option maxRecDepth 20000 in
theorem kn_X6_118 : Cond.constant RX6 118 (kFULL) ∈ wAll := mT2 (List.mem_of_getElem? (i := 104) rfl) rfl
set_option maxRecDepth 20000 in
theorem kn_X6_126 : Cond.constant RX6 126 (kFAULT) ∈ wAll := mT2 (List.mem_of_getElem? (i := 149) rfl) rfl
set_option maxRecDepth 20000 in
theorem kn_X6_153 : Cond.constant RX6 153 (kSTATE) ∈ wAll := mT2 (List.mem_of_getElem? (i := 175) rfl) rfl
set_option maxRecDepth 20000 in
theorem kn_X5_61 : Cond.constant RX5 61 (kNONE) ∈ wAll := mT2 (List.mem_of_getElem? (i := 201) rfl) rfl
set_option maxRecDepth 20000 in
theorem kn_X6_222 : Cond.constant RX6 222 (kNONE) ∈ wAll := mT3 (List.mem_of_getElem? (i := 59) rfl) rfl
set_option maxRecDepth 20000 in
theorem kn_X3_62 : Cond.constant RX3 62 (kNONE) ∈ wAll := mT3 (List.mem_of_getElem? (i := 100) rfl) rfl
set_option maxRecDepth 20000 in
theorem kn_J6_265 : Cond.constant RJ6 265 (nI 1431655765) ∈ wAll := mT3 (List.mem_of_getElem? (i := 117) rfl) rfl
set_option maxRecDepth 20000 in
theorem kn_J6_266 : Cond.constant RJ6 266 (nI 858993459) ∈ wAll := mT3 (List.mem_of_getElem? (i := 118) rfl) rfl
set_option maxRecDepth 20000 in
theorem kn_J6_267 : Cond.constant RJ6 267 (nI 252645135) ∈ wAll := mT3 (List.mem_of_getElem? (i := 119) rfl) rfl
set_option maxRecDepth 20000 in
theorem kn_X6_271 : Cond.constantLong RX6 271 (kBADL) ∈ wAll := mT3 (List.mem_of_getElem? (i := 167) rfl) rfl
set_option maxRecDepth 20000 in
theorem kn_X6_284 : Cond.constant RX6 284 (nI 999999) ∈ wAll := mT3 (List.mem_of_getElem? (i := 185) rfl) rfl
set_option maxRecDepth 20000 in
theorem kn_X6_285 : Cond.constantLong RX6 285 (lN 16807) ∈ wAll := mT3 (List.mem_of_getElem? (i := 186) rfl) rfl
set_option maxRecDepth 20000 in
theorem kn_X6_287 : Cond.constantLong RX6 287 (lN 2147483647) ∈ wAll := mT3 (List.mem_of_getElem? (i := 187) rfl) rfl
set_option maxRecDepth 20000 in
theorem kn_X6_289 : Cond.constantLong RX6 289 (lN 4) ∈ wAll := mT3 (List.mem_of_getElem? (i := 188) rfl) rfl
set_option maxRecDepth 20000 in
theorem kn_X5_99 : Cond.constantLong RX5 99 (lN 5) ∈ wAll := mT3 (List.mem_of_getElem? (i := 193) rfl) rfl
set_option maxRecDepth 20000 in
theorem kn_X7_46 : Cond.constantLong RX7 46 (lN 7) ∈ wAll := mT4 (List.mem_of_getElem? (i := 118) rfl) rfl
set_option maxRecDepth 20000 in
theorem kn_X7_56 : Cond.constantLong RX7 56 (lN 2) ∈ wAll := mT4 (List.mem_of_getElem? (i := 122) rfl) rfl
set_option maxRecDepth 20000 in
theorem kn_X7_58 : Cond.constant RX7 58 (kBAD) ∈ wAll := mT4 (List.mem_of_getElem? (i := 123) rfl) rfl
set_option maxRecDepth 20000 in
theorem kn_X7_45 : Cond.constant RX7 45 (kFOUND) ∈ wAll := mT4 (List.mem_of_getElem? (i := 128) rfl) rfl
set_option maxRecDepth 20000 in
theorem kn_X7_74 : Cond.constantLong RX7 74 (lN 255) ∈ wAll := mT4 (List.mem_of_getElem? (i := 156) rfl) rfl
set_option maxRecDepth 20000 in
theorem kn_X7_79 : Cond.constant RX7 79 (kFULL) ∈ wAll := mT4 (List.mem_of_getElem? (i := 157) rfl) rfl
set_option maxRecDepth 20000 in
theorem kn_X7_83 : Cond.constantLong RX7 83 (lN 48) ∈ wAll := mT4 (List.mem_of_getElem? (i := 190) rfl) rfl
set_option maxRecDepth 20000 in
theorem kn_X7_85 : Cond.constantLong RX7 85 (lN 57) ∈ wAll := mT4 (List.mem_of_getElem? (i := 191) rfl) rfl
set_option maxRecDepth 20000 in
theorem kn_X7_131 : Cond.constant RX7 131 (kFAULT) ∈ wAll := mT4 (List.mem_of_getElem? (i := 207) rfl) rfl
set_option maxRecDepth 20000 in
theorem kn_X7_143 : Cond.constant RX7 143 (kSTATE) ∈ wAll := mT4 (List.mem_of_getElem? (i := 220) rfl) rfl
set_option maxRecDepth 20000 in
theorem kn_X7_167 : Cond.constantLong RX7 167 (lN 24) ∈ wAll := mT4 (List.mem_of_getElem? (i := 225) rfl) rfl
set_option maxRecDepth 20000 in
theorem kn_X7_144 : Cond.constant RX7 144 (kNONE) ∈ wAll := mT4 (List.mem_of_getElem? (i := 238) rfl) rfl
set_option maxRecDepth 20000 in
theorem kn_X7_179 : Cond.constantLong RX7 179 (lN 60) ∈ wAll := mT5 (List.mem_of_getElem? (i := 29) rfl) rfl
set_option maxRecDepth 20000 in
theorem kn_X7_187 : Cond.constantLong RX7 187 (lN 4) ∈ wAll := mT5 (List.mem_of_getElem? (i := 46) rfl) rfl
set_option maxRecDepth 20000 in
theorem kn_X7_192 : Cond.constantLong RX7 192 (lN 20) ∈ wAll := mT5 (List.mem_of_getElem? (i := 59) rfl) rfl
set_option maxRecDepth 20000 in
theorem kn_X7_210 : Cond.constantLong RX7 210 (lN 14) ∈ wAll := mT5 (List.mem_of_getElem? (i := 112) rfl) rfl
set_option maxRecDepth 20000 in
theorem kn_X7_224 : Cond.constantLong RX7 224 (lN 12) ∈ wAll := mT5 (List.mem_of_getElem? (i := 153) rfl) rfl
set_option maxRecDepth 20000 in
theorem kn_X7_234 : Cond.constantLong RX7 234 (lN 10) ∈ wAll := mT5 (List.mem_of_getElem? (i := 174) rfl) rfl
set_option maxRecDepth 20000 in
theorem kn_X7_236 : Cond.constantLong RX7 236 (kBADL) ∈ wAll := mT5 (List.mem_of_getElem? (i := 175) rfl) rfl
set_option maxRecDepth 20000 in
theorem kn_X7_241 : Cond.constantLong RX7 241 (lN 999999) ∈ wAll := mT5 (List.mem_of_getElem? (i := 184) rfl) rfl
set_option maxRecDepth 20000 in
theorem kn_X7_243 : Cond.constantLong RX7 243 (lN 16807) ∈ wAll := mT5 (List.mem_of_getElem? (i := 185) rfl) rfl
set_option maxRecDepth 20000 in
theorem kn_X7_245 : Cond.constantLong RX7 245 (lN 2147483647) ∈ wAll := mT5 (List.mem_of_getElem? (i := 186) rfl) rfl
set_option maxRecDepth 20000 in
theorem kn_X7_247 : Cond.constantLong RX7 247 (lN 5) ∈ wAll := mT5 (List.mem_of_getElem? (i := 187) rfl) rfl
