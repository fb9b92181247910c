def gFdR (own : String) (idx ci kf : Nat) (ty : FieldType) : Prop := ∃ (C : String) (T : u_T) (N : Nat) (ref : String), vwCl[ci]? = some (C, T, N) ∧ kf < N ∧ (∀ w ∈ u_ws C T N, w ∈ gT) ∧ Cond.fieldLink own idx ref (T kf).2.1 (T kf).2.2.1 ∈ gT ∧ (ref = (T kf).1 ∨ Cond.sameField ref (T kf).1 (T kf).2.1 (T kf).2.2.1 ∈ gT)
abbrev mX0_init : gM := (yX0_init, cX0_init, 4, none, { frames := 3, cells := 0, slots := 0, locals := 70 })
abbrev mX0_shares : gM := (yX0_shares, cX0_shares, 2, (some .int), { frames := 2, cells := 0, slots := 0, locals := 43 })
abbrev mX0_leads : gM := (yX0_leads, cX0_leads, 2, (some .int), { frames := 2, cells := 0, slots := 0, locals := 42 })
abbrev mX1_init : gM := (yX1_init, cX1_init, 1, none, { frames := 1, cells := 3, slots := 2560, locals := 24 })
abbrev mX1_joinAll : gM := (yX1_joinAll, cX1_joinAll, 5, none, { frames := 1, cells := 0, slots := 0, locals := 28 })
abbrev mX1_joinedToo : gM := (yX1_joinedToo, cX1_joinedToo, 9, (some .long), { frames := 0, cells := 0, slots := 0, locals := 0 })
abbrev mX1_joins : gM := (yX1_joins, cX1_joins, 4, (some .boolean), { frames := 0, cells := 0, slots := 0, locals := 0 })
abbrev mX1_lookAhead : gM := (yX1_lookAhead, cX1_lookAhead, 6, none, { frames := 3, cells := 0, slots := 0, locals := 66 })
abbrev mX1_oddsOf : gM := (yX1_oddsOf, cX1_oddsOf, 6, (some .long), { frames := 1, cells := 0, slots := 0, locals := 23 })
abbrev mX1_oddsReach : gM := (yX1_oddsReach, cX1_oddsReach, 4, (some .boolean), { frames := 2, cells := 0, slots := 0, locals := 48 })
abbrev mX1_mix : gM := (yX1_mix, cX1_mix, 11, none, { frames := 0, cells := 0, slots := 0, locals := 0 })
abbrev mX1_valueWhereJoined : gM := (yX1_valueWhereJoined, cX1_valueWhereJoined, 5, none, { frames := 1, cells := 0, slots := 0, locals := 23 })
abbrev mX1_bestHeld : gM := (yX1_bestHeld, cX1_bestHeld, 8, (some .int), { frames := 3, cells := 0, slots := 0, locals := 66 })
abbrev mX1_isBetterHeld : gM := (yX1_isBetterHeld, cX1_isBetterHeld, 3, (some .boolean), { frames := 1, cells := 0, slots := 0, locals := 20 })
abbrev mX1_fewestKept : gM := (yX1_fewestKept, cX1_fewestKept, 9, (some .int), { frames := 4, cells := 0, slots := 0, locals := 88 })
abbrev mX1_surePaths : gM := (yX1_surePaths, cX1_surePaths, 3, (some .int), { frames := 3, cells := 0, slots := 0, locals := 66 })
abbrev mX1_bestWithin : gM := (yX1_bestWithin, cX1_bestWithin, 6, (some .long), { frames := 4, cells := 0, slots := 0, locals := 91 })
abbrev mX1_bestWait : gM := (yX1_bestWait, cX1_bestWait, 6, (some .long), { frames := 1, cells := 0, slots := 0, locals := 24 })
abbrev mX1_valueOfWaiting : gM := (yX1_valueOfWaiting, cX1_valueOfWaiting, 5, (some .long), { frames := 0, cells := 0, slots := 0, locals := 0 })
abbrev mX1_waitOneNight : gM := (yX1_waitOneNight, cX1_waitOneNight, 6, none, { frames := 3, cells := 0, slots := 0, locals := 66 })
abbrev mX1_goWhereBest : gM := (yX1_goWhereBest, cX1_goWhereBest, 3, none, { frames := 2, cells := 0, slots := 0, locals := 48 })
abbrev mX1_bestReached : gM := (yX1_bestReached, cX1_bestReached, 6, (some .long), { frames := 1, cells := 0, slots := 0, locals := 23 })
abbrev mX2_init : gM := (yX2_init, cX2_init, 4, none, { frames := 3, cells := 0, slots := 0, locals := 70 })
abbrev mX2_leads : gM := (yX2_leads, cX2_leads, 2, (some .int), { frames := 2, cells := 0, slots := 0, locals := 42 })
abbrev mX2_stays : gM := (yX2_stays, cX2_stays, 2, (some .int), { frames := 5, cells := 0, slots := 0, locals := 105 })
abbrev mX3_init : gM := (yX3_init, cX3_init, 4, none, { frames := 1, cells := 0, slots := 0, locals := 24 })
abbrev mX3_leads : gM := (yX3_leads, cX3_leads, 2, (some .int), { frames := 1, cells := 0, slots := 0, locals := 21 })
abbrev mX3_stays : gM := (yX3_stays, cX3_stays, 2, (some .int), { frames := 3, cells := 0, slots := 0, locals := 63 })
abbrev mX3_shares : gM := (yX3_shares, cX3_shares, 3, (some .int), { frames := 1, cells := 0, slots := 0, locals := 21 })
abbrev mX3_tells : gM := (yX3_tells, cX3_tells, 2, (some .int), { frames := 6, cells := 0, slots := 0, locals := 126 })
abbrev mX4_init : gM := (yX4_init, cX4_init, 4, none, { frames := 2, cells := 0, slots := 0, locals := 47 })
abbrev mX4_tells : gM := (yX4_tells, cX4_tells, 2, (some .int), { frames := 7, cells := 0, slots := 0, locals := 147 })
abbrev mX4_shares : gM := (yX4_shares, cX4_shares, 2, (some .int), { frames := 2, cells := 0, slots := 0, locals := 43 })
abbrev mX5_init : gM := (yX5_init, cX5_init, 3, none, { frames := 1, cells := 1, slots := 40, locals := 24 })
abbrev mX5_narrowed : gM := (yX5_narrowed, cX5_narrowed, 2, (some .long), { frames := 0, cells := 0, slots := 0, locals := 0 })
abbrev mX6_init : gM := (yX6_init, cX6_init, 1, none, { frames := 1, cells := 1, slots := 240, locals := 24 })
abbrev mX6_take : gM := (yX6_take, cX6_take, 5, (some .int), { frames := 0, cells := 0, slots := 0, locals := 0 })
abbrev mX6_tellTo : gM := (yX6_tellTo, cX6_tellTo, 3, (some .int), { frames := 9, cells := 0, slots := 0, locals := 198 })
abbrev mX6_tellThing : gM := (yX6_tellThing, cX6_tellThing, 3, none, { frames := 8, cells := 0, slots := 0, locals := 176 })
abbrev mX6_kindTold : gM := (yX6_kindTold, cX6_kindTold, 1, (some .int), { frames := 6, cells := 0, slots := 0, locals := 128 })
abbrev mX6_tellPath : gM := (yX6_tellPath, cX6_tellPath, 8, none, { frames := 7, cells := 0, slots := 0, locals := 149 })
abbrev mX6_tellWalker : gM := (yX6_tellWalker, cX6_tellWalker, 4, none, { frames := 7, cells := 0, slots := 0, locals := 149 })
abbrev mX6_tellWeight : gM := (yX6_tellWeight, cX6_tellWeight, 4, none, { frames := 3, cells := 0, slots := 0, locals := 65 })
abbrev mX6_takesWordIfThere : gM := (yX6_takesWordIfThere, cX6_takesWordIfThere, 2, (some .boolean), { frames := 6, cells := 0, slots := 0, locals := 128 })
abbrev mX6_takesWord : gM := (yX6_takesWord, cX6_takesWord, 2, none, { frames := 6, cells := 0, slots := 0, locals := 128 })
abbrev mX6_takesNumber : gM := (yX6_takesNumber, cX6_takesNumber, 4, (some .int), { frames := 2, cells := 0, slots := 0, locals := 42 })
abbrev mX6_takesEnd : gM := (yX6_takesEnd, cX6_takesEnd, 1, none, { frames := 2, cells := 0, slots := 0, locals := 42 })
abbrev mX6_isWord : gM := (yX6_isWord, cX6_isWord, 3, (some .boolean), { frames := 5, cells := 0, slots := 0, locals := 106 })
abbrev mX6_step : gM := (yX6_step, cX6_step, 2, none, { frames := 1, cells := 0, slots := 0, locals := 21 })
abbrev mX6_sortOf : gM := (yX6_sortOf, cX6_sortOf, 1, (some .int), { frames := 0, cells := 0, slots := 0, locals := 0 })
abbrev mX6_byteAt : gM := (yX6_byteAt, cX6_byteAt, 2, (some .int), { frames := 0, cells := 0, slots := 0, locals := 0 })
abbrev mX7_init : gM := (yX7_init, cX7_init, 1, none, { frames := 1, cells := 1, slots := 30, locals := 24 })
abbrev mX7_clear : gM := (yX7_clear, cX7_clear, 1, none, { frames := 0, cells := 0, slots := 0, locals := 0 })
abbrev mX7_begin : gM := (yX7_begin, cX7_begin, 2, none, { frames := 0, cells := 0, slots := 0, locals := 0 })
abbrev mX8_init : gM := (yX8_init, cX8_init, 4, none, { frames := 2, cells := 0, slots := 0, locals := 47 })
abbrev mX8_stays : gM := (yX8_stays, cX8_stays, 2, (some .int), { frames := 4, cells := 0, slots := 0, locals := 84 })
abbrev mX9_init : gM := (yX9_init, cX9_init, 4, none, { frames := 2, cells := 0, slots := 0, locals := 47 })
abbrev mX9_leads : gM := (yX9_leads, cX9_leads, 2, (some .int), { frames := 2, cells := 0, slots := 0, locals := 42 })
abbrev mX9_tells : gM := (yX9_tells, cX9_tells, 2, (some .int), { frames := 7, cells := 0, slots := 0, locals := 147 })
abbrev mX10_init : gM := (yX10_init, cX10_init, 1, none, { frames := 1, cells := 11, slots := 68, locals := 24 })
abbrev mX10_copyFrom : gM := (yX10_copyFrom, cX10_copyFrom, 2, none, { frames := 1, cells := 0, slots := 0, locals := 40 })
abbrev mX10_clear : gM := (yX10_clear, cX10_clear, 1, none, { frames := 1, cells := 0, slots := 0, locals := 23 })
abbrev mX10_hasPath : gM := (yX10_hasPath, cX10_hasPath, 2, (some .boolean), { frames := 1, cells := 0, slots := 0, locals := 21 })
abbrev mX10_hasWalker : gM := (yX10_hasWalker, cX10_hasWalker, 2, (some .boolean), { frames := 1, cells := 0, slots := 0, locals := 21 })
abbrev mX10_hasRule : gM := (yX10_hasRule, cX10_hasRule, 2, (some .boolean), { frames := 1, cells := 0, slots := 0, locals := 21 })
abbrev mX10_addPath : gM := (yX10_addPath, cX10_addPath, 7, (some .int), { frames := 1, cells := 0, slots := 0, locals := 22 })
abbrev mX10_addWalker : gM := (yX10_addWalker, cX10_addWalker, 4, (some .int), { frames := 1, cells := 0, slots := 0, locals := 22 })
abbrev mX10_addRule : gM := (yX10_addRule, cX10_addRule, 4, (some .int), { frames := 0, cells := 0, slots := 0, locals := 0 })
abbrev mX10_isThere : gM := (yX10_isThere, cX10_isThere, 2, (some .boolean), { frames := 1, cells := 0, slots := 0, locals := 21 })
abbrev mX10_setThere : gM := (yX10_setThere, cX10_setThere, 3, none, { frames := 0, cells := 0, slots := 0, locals := 0 })
abbrev mX10_endsAt : gM := (yX10_endsAt, cX10_endsAt, 3, (some .boolean), { frames := 0, cells := 0, slots := 0, locals := 0 })
abbrev mX10_otherEnd : gM := (yX10_otherEnd, cX10_otherEnd, 3, (some .int), { frames := 0, cells := 0, slots := 0, locals := 0 })
abbrev mX10_walkersOn : gM := (yX10_walkersOn, cX10_walkersOn, 4, (some .int), { frames := 0, cells := 0, slots := 0, locals := 0 })
abbrev mX10_pathsWalked : gM := (yX10_pathsWalked, cX10_pathsWalked, 3, (some .int), { frames := 2, cells := 0, slots := 0, locals := 42 })
abbrev mX10_payOf : gM := (yX10_payOf, cX10_payOf, 4, (some .int), { frames := 2, cells := 0, slots := 0, locals := 42 })
abbrev mX10_mayStep : gM := (yX10_mayStep, cX10_mayStep, 3, (some .boolean), { frames := 2, cells := 0, slots := 0, locals := 42 })
abbrev mX10_goAlong : gM := (yX10_goAlong, cX10_goAlong, 3, none, { frames := 1, cells := 0, slots := 0, locals := 22 })
abbrev mX10_comeOn : gM := (yX10_comeOn, cX10_comeOn, 3, none, { frames := 0, cells := 0, slots := 0, locals := 0 })
abbrev mX10_setDown : gM := (yX10_setDown, cX10_setDown, 3, none, { frames := 0, cells := 0, slots := 0, locals := 0 })
abbrev mX10_someoneAtEnd : gM := (yX10_someoneAtEnd, cX10_someoneAtEnd, 3, (some .boolean), { frames := 0, cells := 0, slots := 0, locals := 0 })
abbrev mX10_staysOf : gM := (yX10_staysOf, cX10_staysOf, 3, (some .int), { frames := 1, cells := 0, slots := 0, locals := 22 })
abbrev mX10_comesOf : gM := (yX10_comesOf, cX10_comesOf, 2, (some .int), { frames := 1, cells := 0, slots := 0, locals := 21 })
abbrev mX10_chanceOf : gM := (yX10_chanceOf, cX10_chanceOf, 3, (some .int), { frames := 2, cells := 0, slots := 0, locals := 44 })
abbrev mX10_passNight : gM := (yX10_passNight, cX10_passNight, 3, none, { frames := 3, cells := 0, slots := 0, locals := 66 })
abbrev mX10_grown : gM := (yX10_grown, cX10_grown, 5, (some .int), { frames := 2, cells := 0, slots := 0, locals := 42 })
abbrev mX10_reachFrom : gM := (yX10_reachFrom, cX10_reachFrom, 4, (some .int), { frames := 3, cells := 0, slots := 0, locals := 66 })
abbrev mX10_nearFirstClearing : gM := (yX10_nearFirstClearing, cX10_nearFirstClearing, 1, (some .int), { frames := 4, cells := 0, slots := 0, locals := 89 })
abbrev mX10_distance : gM := (yX10_distance, cX10_distance, 5, (some .int), { frames := 3, cells := 0, slots := 0, locals := 66 })
abbrev mX10_firstStep : gM := (yX10_firstStep, cX10_firstStep, 5, (some .int), { frames := 4, cells := 0, slots := 0, locals := 90 })
abbrev mX11_init : gM := (yX11_init, cX11_init, 1, none, { frames := 2, cells := 49, slots := 3139, locals := 44 })
abbrev mX11_feed : gM := (yX11_feed, cX11_feed, 4, (some .int), { frames := 1, cells := 0, slots := 0, locals := 24 })
abbrev mX11_wood : gM := (yX11_wood, cX11_wood, 2, (some .int), { frames := 10, cells := 0, slots := 0, locals := 220 })
abbrev mX11_path : gM := (yX11_path, cX11_path, 7, (some .int), { frames := 2, cells := 0, slots := 0, locals := 48 })
abbrev mX11_pathOf : gM := (yX11_pathOf, cX11_pathOf, 3, (some .int), { frames := 2, cells := 0, slots := 0, locals := 44 })
abbrev mX11_open : gM := (yX11_open, cX11_open, 4, (some .int), { frames := 2, cells := 0, slots := 0, locals := 42 })
abbrev mX11_rain : gM := (yX11_rain, cX11_rain, 3, (some .int), { frames := 0, cells := 0, slots := 0, locals := 0 })
abbrev mX11_weigh : gM := (yX11_weigh, cX11_weigh, 4, (some .int), { frames := 2, cells := 0, slots := 0, locals := 41 })
abbrev mX11_walker : gM := (yX11_walker, cX11_walker, 3, (some .int), { frames := 2, cells := 0, slots := 0, locals := 45 })
abbrev mX11_walkerOf : gM := (yX11_walkerOf, cX11_walkerOf, 3, (some .int), { frames := 2, cells := 0, slots := 0, locals := 42 })
abbrev mX11_walk : gM := (yX11_walk, cX11_walk, 3, (some .int), { frames := 3, cells := 0, slots := 0, locals := 64 })
abbrev mX11_on : gM := (yX11_on, cX11_on, 3, (some .int), { frames := 3, cells := 0, slots := 0, locals := 64 })
abbrev mX11_off : gM := (yX11_off, cX11_off, 4, (some .int), { frames := 2, cells := 0, slots := 0, locals := 42 })
abbrev mX11_put : gM := (yX11_put, cX11_put, 4, (some .int), { frames := 2, cells := 0, slots := 0, locals := 42 })
abbrev mX11_night : gM := (yX11_night, cX11_night, 3, (some .int), { frames := 4, cells := 0, slots := 0, locals := 88 })
abbrev mX11_count : gM := (yX11_count, cX11_count, 2, (some .int), { frames := 3, cells := 0, slots := 0, locals := 65 })
abbrev mX11_seed : gM := (yX11_seed, cX11_seed, 3, (some .int), { frames := 0, cells := 0, slots := 0, locals := 0 })
abbrev mX11_way : gM := (yX11_way, cX11_way, 3, (some .int), { frames := 4, cells := 0, slots := 0, locals := 90 })
abbrev mX11_reach : gM := (yX11_reach, cX11_reach, 2, (some .int), { frames := 4, cells := 0, slots := 0, locals := 89 })
abbrev mX11_odds : gM := (yX11_odds, cX11_odds, 4, (some .long), { frames := 4, cells := 0, slots := 0, locals := 91 })
abbrev mX11_held : gM := (yX11_held, cX11_held, 4, (some .int), { frames := 4, cells := 0, slots := 0, locals := 93 })
abbrev mX11_keepers : gM := (yX11_keepers, cX11_keepers, 5, (some .int), { frames := 5, cells := 0, slots := 0, locals := 116 })
abbrev mX11_home : gM := (yX11_home, cX11_home, 5, (some .int), { frames := 4, cells := 0, slots := 0, locals := 91 })
abbrev mX11_within : gM := (yX11_within, cX11_within, 10, (some .long), { frames := 5, cells := 0, slots := 0, locals := 116 })
abbrev mX11_seek : gM := (yX11_seek, cX11_seek, 9, (some .int), { frames := 4, cells := 0, slots := 0, locals := 91 })
abbrev mX11_rule : gM := (yX11_rule, cX11_rule, 3, (some .int), { frames := 2, cells := 0, slots := 0, locals := 41 })
abbrev mX11_ruleOf : gM := (yX11_ruleOf, cX11_ruleOf, 3, (some .int), { frames := 2, cells := 0, slots := 0, locals := 42 })
abbrev mX11_does : gM := (yX11_does, cX11_does, 4, (some .int), { frames := 6, cells := 0, slots := 0, locals := 144 })
abbrev mX11_goes : gM := (yX11_goes, cX11_goes, 3, (some .int), { frames := 6, cells := 0, slots := 0, locals := 144 })
abbrev mX11_prove : gM := (yX11_prove, cX11_prove, 3, (some .int), { frames := 5, cells := 0, slots := 0, locals := 109 })
abbrev mX11_row : gM := (yX11_row, cX11_row, 3, (some .int), { frames := 1, cells := 0, slots := 0, locals := 21 })
abbrev mX11_alterRow : gM := (yX11_alterRow, cX11_alterRow, 6, (some .int), { frames := 1, cells := 0, slots := 0, locals := 21 })
abbrev mX11_judge : gM := (yX11_judge, cX11_judge, 2, (some .int), { frames := 5, cells := 0, slots := 0, locals := 109 })
abbrev mX11_lays : gM := (yX11_lays, cX11_lays, 5, (some .int), { frames := 1, cells := 0, slots := 0, locals := 23 })
abbrev mX11_sheet : gM := (yX11_sheet, cX11_sheet, 5, (some .int), { frames := 2, cells := 2, slots := 42, locals := 46 })
abbrev mX11_write : gM := (yX11_write, cX11_write, 5, (some .int), { frames := 1, cells := 0, slots := 0, locals := 21 })
abbrev mX11_item : gM := (yX11_item, cX11_item, 5, (some .int), { frames := 1, cells := 0, slots := 0, locals := 21 })
abbrev mX11_shelf : gM := (yX11_shelf, cX11_shelf, 4, (some .int), { frames := 2, cells := 0, slots := 0, locals := 42 })
abbrev mX11_taken : gM := (yX11_taken, cX11_taken, 6, (some .int), { frames := 2, cells := 0, slots := 0, locals := 42 })
abbrev mX11_act : gM := (yX11_act, cX11_act, 6, (some .int), { frames := 8, cells := 1, slots := 3, locals := 168 })
abbrev mX11_trace : gM := (yX11_trace, cX11_trace, 2, (some .int), { frames := 1, cells := 0, slots := 0, locals := 21 })
abbrev mX11_many : gM := (yX11_many, cX11_many, 2, (some .int), { frames := 0, cells := 0, slots := 0, locals := 0 })
abbrev mX11_keep : gM := (yX11_keep, cX11_keep, 1, (some .int), { frames := 2, cells := 0, slots := 0, locals := 61 })
abbrev mX11_again : gM := (yX11_again, cX11_again, 1, (some .int), { frames := 2, cells := 0, slots := 0, locals := 61 })
abbrev mX11_isBelow : gM := (yX11_isBelow, cX11_isBelow, 2, (some .boolean), { frames := 0, cells := 0, slots := 0, locals := 0 })
abbrev mX11_isUpTo : gM := (yX11_isUpTo, cX11_isUpTo, 2, (some .boolean), { frames := 0, cells := 0, slots := 0, locals := 0 })
abbrev mX11_isClearing : gM := (yX11_isClearing, cX11_isClearing, 1, (some .boolean), { frames := 1, cells := 0, slots := 0, locals := 21 })
abbrev mX11_isPart : gM := (yX11_isPart, cX11_isPart, 1, (some .boolean), { frames := 1, cells := 0, slots := 0, locals := 21 })
abbrev mX11_isInSet : gM := (yX11_isInSet, cX11_isInSet, 2, (some .boolean), { frames := 0, cells := 0, slots := 0, locals := 0 })
abbrev mX11_partOf : gM := (yX11_partOf, cX11_partOf, 10, (some .long), { frames := 0, cells := 0, slots := 0, locals := 0 })
abbrev mX11_isOfKind : gM := (yX11_isOfKind, cX11_isOfKind, 3, (some .boolean), { frames := 0, cells := 0, slots := 0, locals := 0 })
abbrev mX11_stepBy : gM := (yX11_stepBy, cX11_stepBy, 7, (some .int), { frames := 5, cells := 0, slots := 0, locals := 118 })
abbrev mX11_farthestSafe : gM := (yX11_farthestSafe, cX11_farthestSafe, 8, (some .int), { frames := 4, cells := 0, slots := 0, locals := 91 })
abbrev mX11_thingOf : gM := (yX11_thingOf, cX11_thingOf, 3, (some (.object "HeldPaths$PathThing")), { frames := 4, cells := 1, slots := 3, locals := 93 })
abbrev mX12_init : gM := (yX12_init, cX12_init, 1, none, { frames := 1, cells := 26, slots := 989, locals := 24 })
abbrev mX12_in : gM := (yX12_in, cX12_in, 3, (some .boolean), { frames := 0, cells := 0, slots := 0, locals := 0 })
abbrev mX12_isClearing : gM := (yX12_isClearing, cX12_isClearing, 1, (some .boolean), { frames := 1, cells := 0, slots := 0, locals := 22 })
abbrev mX12_isPath : gM := (yX12_isPath, cX12_isPath, 2, (some .boolean), { frames := 1, cells := 0, slots := 0, locals := 22 })
abbrev mX12_isWalker : gM := (yX12_isWalker, cX12_isWalker, 2, (some .boolean), { frames := 1, cells := 0, slots := 0, locals := 22 })
abbrev mX12_isSide : gM := (yX12_isSide, cX12_isSide, 1, (some .boolean), { frames := 1, cells := 0, slots := 0, locals := 22 })
abbrev mX12_its : gM := (yX12_its, cX12_its, 3, (some .int), { frames := 0, cells := 0, slots := 0, locals := 0 })
abbrev mX12_isThere : gM := (yX12_isThere, cX12_isThere, 2, (some .boolean), { frames := 0, cells := 0, slots := 0, locals := 0 })
abbrev mX12_isEnd : gM := (yX12_isEnd, cX12_isEnd, 3, (some .boolean), { frames := 1, cells := 0, slots := 0, locals := 22 })
abbrev mX12_otherEnd : gM := (yX12_otherEnd, cX12_otherEnd, 3, (some .int), { frames := 1, cells := 0, slots := 0, locals := 22 })
abbrev mX12_feed : gM := (yX12_feed, cX12_feed, 5, (some .int), { frames := 1, cells := 0, slots := 0, locals := 22 })
abbrev mX12_byteAt : gM := (yX12_byteAt, cX12_byteAt, 2, (some .int), { frames := 0, cells := 0, slots := 0, locals := 0 })
abbrev mX12_isLetter : gM := (yX12_isLetter, cX12_isLetter, 1, (some .boolean), { frames := 1, cells := 0, slots := 0, locals := 22 })
abbrev mX12_isDigit : gM := (yX12_isDigit, cX12_isDigit, 1, (some .boolean), { frames := 1, cells := 0, slots := 0, locals := 22 })
abbrev mX12_advance : gM := (yX12_advance, cX12_advance, 2, none, { frames := 2, cells := 0, slots := 0, locals := 42 })
abbrev mX12_isWord : gM := (yX12_isWord, cX12_isWord, 3, (some .boolean), { frames := 0, cells := 0, slots := 0, locals := 0 })
abbrev mX12_isMark : gM := (yX12_isMark, cX12_isMark, 2, (some .boolean), { frames := 0, cells := 0, slots := 0, locals := 0 })
abbrev mX12_kindHere : gM := (yX12_kindHere, cX12_kindHere, 1, (some .int), { frames := 1, cells := 0, slots := 0, locals := 22 })
abbrev mX12_wantNumber : gM := (yX12_wantNumber, cX12_wantNumber, 3, (some .int), { frames := 3, cells := 0, slots := 0, locals := 63 })
abbrev mX12_wantWord : gM := (yX12_wantWord, cX12_wantWord, 3, none, { frames := 3, cells := 0, slots := 0, locals := 63 })
abbrev mX12_wantEnd : gM := (yX12_wantEnd, cX12_wantEnd, 1, none, { frames := 3, cells := 0, slots := 0, locals := 63 })
abbrev mX12_wantPath : gM := (yX12_wantPath, cX12_wantPath, 8, none, { frames := 4, cells := 0, slots := 0, locals := 85 })
abbrev mX12_wantWalker : gM := (yX12_wantWalker, cX12_wantWalker, 3, none, { frames := 4, cells := 0, slots := 0, locals := 85 })
abbrev mX12_wantClause : gM := (yX12_wantClause, cX12_wantClause, 3, none, { frames := 5, cells := 0, slots := 0, locals := 112 })
abbrev mX12_wood : gM := (yX12_wood, cX12_wood, 2, (some .int), { frames := 6, cells := 0, slots := 0, locals := 134 })
abbrev mX12_path : gM := (yX12_path, cX12_path, 7, (some .int), { frames := 2, cells := 0, slots := 0, locals := 42 })
abbrev mX12_kept : gM := (yX12_kept, cX12_kept, 2, (some .int), { frames := 0, cells := 0, slots := 0, locals := 0 })
abbrev mX12_isRidden : gM := (yX12_isRidden, cX12_isRidden, 4, (some .boolean), { frames := 2, cells := 0, slots := 0, locals := 44 })
abbrev mX12_staysOf : gM := (yX12_staysOf, cX12_staysOf, 4, (some .int), { frames := 3, cells := 0, slots := 0, locals := 67 })
abbrev mX12_comesOf : gM := (yX12_comesOf, cX12_comesOf, 3, (some .int), { frames := 1, cells := 0, slots := 0, locals := 22 })
abbrev mX12_onWhich : gM := (yX12_onWhich, cX12_onWhich, 4, (some .int), { frames := 0, cells := 0, slots := 0, locals := 0 })
abbrev mX12_heldSet : gM := (yX12_heldSet, cX12_heldSet, 3, (some .int), { frames := 0, cells := 0, slots := 0, locals := 0 })
abbrev mX12_pathOf : gM := (yX12_pathOf, cX12_pathOf, 3, (some .int), { frames := 4, cells := 0, slots := 0, locals := 90 })
abbrev mX12_open : gM := (yX12_open, cX12_open, 3, (some .int), { frames := 2, cells := 0, slots := 0, locals := 43 })
abbrev mX12_rain : gM := (yX12_rain, cX12_rain, 3, (some .int), { frames := 0, cells := 0, slots := 0, locals := 0 })
abbrev mX12_weigh : gM := (yX12_weigh, cX12_weigh, 4, (some .int), { frames := 2, cells := 0, slots := 0, locals := 42 })
abbrev mX12_walker : gM := (yX12_walker, cX12_walker, 3, (some .int), { frames := 2, cells := 0, slots := 0, locals := 42 })
abbrev mX12_walkerOf : gM := (yX12_walkerOf, cX12_walkerOf, 4, (some .int), { frames := 2, cells := 0, slots := 0, locals := 43 })
abbrev mX12_canTake : gM := (yX12_canTake, cX12_canTake, 3, (some .boolean), { frames := 2, cells := 0, slots := 0, locals := 44 })
abbrev mX12_walk : gM := (yX12_walk, cX12_walk, 3, (some .int), { frames := 3, cells := 0, slots := 0, locals := 66 })
abbrev mX12_ones : gM := (yX12_ones, cX12_ones, 3, (some .int), { frames := 0, cells := 0, slots := 0, locals := 0 })
abbrev mX12_on : gM := (yX12_on, cX12_on, 3, (some .int), { frames := 3, cells := 0, slots := 0, locals := 66 })
abbrev mX12_off : gM := (yX12_off, cX12_off, 3, (some .int), { frames := 2, cells := 0, slots := 0, locals := 44 })
abbrev mX12_put : gM := (yX12_put, cX12_put, 4, (some .int), { frames := 2, cells := 0, slots := 0, locals := 43 })
abbrev mX12_next : gM := (yX12_next, cX12_next, 1, (some .int), { frames := 0, cells := 0, slots := 0, locals := 0 })
abbrev mX12_behind : gM := (yX12_behind, cX12_behind, 7, (some .int), { frames := 4, cells := 0, slots := 0, locals := 90 })
abbrev mX12_night : gM := (yX12_night, cX12_night, 3, (some .int), { frames := 5, cells := 0, slots := 0, locals := 116 })
abbrev mX12_count : gM := (yX12_count, cX12_count, 4, (some .int), { frames := 1, cells := 0, slots := 0, locals := 22 })
abbrev mX12_seed : gM := (yX12_seed, cX12_seed, 3, (some .int), { frames := 0, cells := 0, slots := 0, locals := 0 })
abbrev mX12_grown : gM := (yX12_grown, cX12_grown, 7, (some .int), { frames := 1, cells := 0, slots := 0, locals := 22 })
abbrev mX12_reachBy : gM := (yX12_reachBy, cX12_reachBy, 5, (some .int), { frames := 2, cells := 0, slots := 0, locals := 48 })
abbrev mX12_wayOf : gM := (yX12_wayOf, cX12_wayOf, 6, (some .int), { frames := 2, cells := 0, slots := 0, locals := 48 })
abbrev mX12_way : gM := (yX12_way, cX12_way, 3, (some .int), { frames := 3, cells := 0, slots := 0, locals := 73 })
abbrev mX12_reach : gM := (yX12_reach, cX12_reach, 2, (some .int), { frames := 3, cells := 0, slots := 0, locals := 72 })
abbrev mX12_lowest : gM := (yX12_lowest, cX12_lowest, 11, none, { frames := 0, cells := 0, slots := 0, locals := 0 })
abbrev mX12_findOften : gM := (yX12_findOften, cX12_findOften, 4, none, { frames := 4, cells := 0, slots := 0, locals := 90 })
abbrev mX12_oftenOf : gM := (yX12_oftenOf, cX12_oftenOf, 5, (some .long), { frames := 0, cells := 0, slots := 0, locals := 0 })
abbrev mX12_oddsBy : gM := (yX12_oddsBy, cX12_oddsBy, 7, (some .long), { frames := 5, cells := 0, slots := 0, locals := 113 })
abbrev mX12_allOdds : gM := (yX12_allOdds, cX12_allOdds, 1, (some .long), { frames := 0, cells := 0, slots := 0, locals := 0 })
abbrev mX12_oddsOf : gM := (yX12_oddsOf, cX12_oddsOf, 3, (some .long), { frames := 6, cells := 0, slots := 0, locals := 139 })
abbrev mX12_odds : gM := (yX12_odds, cX12_odds, 4, (some .long), { frames := 7, cells := 0, slots := 0, locals := 161 })
abbrev mX12_held : gM := (yX12_held, cX12_held, 10, (some .int), { frames := 6, cells := 0, slots := 0, locals := 139 })
abbrev mX12_keepers : gM := (yX12_keepers, cX12_keepers, 8, (some .int), { frames := 4, cells := 0, slots := 0, locals := 90 })
abbrev mX12_home : gM := (yX12_home, cX12_home, 5, (some .int), { frames := 7, cells := 0, slots := 0, locals := 161 })
abbrev mX12_findWins : gM := (yX12_findWins, cX12_findWins, 6, none, { frames := 5, cells := 0, slots := 0, locals := 113 })
abbrev mX12_mostOf : gM := (yX12_mostOf, cX12_mostOf, 5, (some .long), { frames := 0, cells := 0, slots := 0, locals := 0 })
abbrev mX12_withinTwo : gM := (yX12_withinTwo, cX12_withinTwo, 6, (some .long), { frames := 6, cells := 0, slots := 0, locals := 138 })
abbrev mX12_within : gM := (yX12_within, cX12_within, 6, (some .long), { frames := 7, cells := 0, slots := 0, locals := 163 })
abbrev mX12_seek : gM := (yX12_seek, cX12_seek, 8, (some .int), { frames := 7, cells := 0, slots := 0, locals := 161 })
abbrev mX12_isRule : gM := (yX12_isRule, cX12_isRule, 2, (some .boolean), { frames := 1, cells := 0, slots := 0, locals := 22 })
abbrev mX12_rule : gM := (yX12_rule, cX12_rule, 3, (some .int), { frames := 2, cells := 0, slots := 0, locals := 42 })
abbrev mX12_ruleOf : gM := (yX12_ruleOf, cX12_ruleOf, 3, (some .int), { frames := 2, cells := 0, slots := 0, locals := 43 })
abbrev mX12_firstPath : gM := (yX12_firstPath, cX12_firstPath, 5, (some .int), { frames := 3, cells := 0, slots := 0, locals := 73 })
abbrev mX12_backFrom : gM := (yX12_backFrom, cX12_backFrom, 7, (some .int), { frames := 7, cells := 0, slots := 0, locals := 161 })
abbrev mX12_goesBy : gM := (yX12_goesBy, cX12_goesBy, 6, (some .int), { frames := 8, cells := 0, slots := 0, locals := 187 })
abbrev mX12_goes : gM := (yX12_goes, cX12_goes, 3, (some .int), { frames := 9, cells := 0, slots := 0, locals := 212 })
abbrev mX12_does : gM := (yX12_does, cX12_does, 4, (some .int), { frames := 9, cells := 0, slots := 0, locals := 212 })
abbrev mX12_findRows : gM := (yX12_findRows, cX12_findRows, 4, none, { frames := 5, cells := 0, slots := 0, locals := 116 })
abbrev mX12_prove : gM := (yX12_prove, cX12_prove, 3, (some .int), { frames := 6, cells := 0, slots := 0, locals := 139 })
abbrev mX12_isRow : gM := (yX12_isRow, cX12_isRow, 3, (some .boolean), { frames := 2, cells := 0, slots := 0, locals := 42 })
abbrev mX12_row : gM := (yX12_row, cX12_row, 3, (some .int), { frames := 3, cells := 0, slots := 0, locals := 64 })
abbrev mX12_alterRow : gM := (yX12_alterRow, cX12_alterRow, 5, (some .int), { frames := 3, cells := 0, slots := 0, locals := 64 })
abbrev mX12_judge : gM := (yX12_judge, cX12_judge, 2, (some .int), { frames := 6, cells := 0, slots := 0, locals := 139 })
abbrev mX12_lays : gM := (yX12_lays, cX12_lays, 7, (some .int), { frames := 2, cells := 0, slots := 0, locals := 42 })
abbrev mX12_isShelf : gM := (yX12_isShelf, cX12_isShelf, 1, (some .boolean), { frames := 1, cells := 0, slots := 0, locals := 22 })
abbrev mX12_sheet : gM := (yX12_sheet, cX12_sheet, 5, (some .int), { frames := 2, cells := 0, slots := 0, locals := 42 })
abbrev mX12_write : gM := (yX12_write, cX12_write, 4, (some .int), { frames := 2, cells := 0, slots := 0, locals := 42 })
abbrev mX12_lacksSort : gM := (yX12_lacksSort, cX12_lacksSort, 3, (some .int), { frames := 0, cells := 0, slots := 0, locals := 0 })
abbrev mX12_item : gM := (yX12_item, cX12_item, 5, (some .int), { frames := 2, cells := 0, slots := 0, locals := 42 })
abbrev mX12_isHeld : gM := (yX12_isHeld, cX12_isHeld, 3, (some .boolean), { frames := 2, cells := 0, slots := 0, locals := 43 })
abbrev mX12_shelf : gM := (yX12_shelf, cX12_shelf, 4, (some .int), { frames := 3, cells := 0, slots := 0, locals := 65 })
abbrev mX12_kindOn : gM := (yX12_kindOn, cX12_kindOn, 2, (some .int), { frames := 2, cells := 0, slots := 0, locals := 43 })
abbrev mX12_isUnder : gM := (yX12_isUnder, cX12_isUnder, 2, (some .boolean), { frames := 0, cells := 0, slots := 0, locals := 0 })
abbrev mX12_taken : gM := (yX12_taken, cX12_taken, 4, (some .int), { frames := 3, cells := 0, slots := 0, locals := 64 })
abbrev mX12_ran : gM := (yX12_ran, cX12_ran, 2, none, { frames := 0, cells := 0, slots := 0, locals := 0 })
abbrev mX12_plainLeads : gM := (yX12_plainLeads, cX12_plainLeads, 2, (some .int), { frames := 1, cells := 0, slots := 0, locals := 21 })
abbrev mX12_leadsIt : gM := (yX12_leadsIt, cX12_leadsIt, 2, (some .int), { frames := 2, cells := 0, slots := 0, locals := 42 })
abbrev mX12_plainStays : gM := (yX12_plainStays, cX12_plainStays, 2, (some .int), { frames := 3, cells := 0, slots := 0, locals := 63 })
abbrev mX12_trackStays : gM := (yX12_trackStays, cX12_trackStays, 2, (some .int), { frames := 4, cells := 0, slots := 0, locals := 84 })
abbrev mX12_staysIt : gM := (yX12_staysIt, cX12_staysIt, 3, (some .int), { frames := 5, cells := 0, slots := 0, locals := 105 })
abbrev mX12_plainShares : gM := (yX12_plainShares, cX12_plainShares, 2, (some .int), { frames := 1, cells := 0, slots := 0, locals := 21 })
abbrev mX12_sharesIt : gM := (yX12_sharesIt, cX12_sharesIt, 3, (some .int), { frames := 3, cells := 0, slots := 0, locals := 63 })
abbrev mX12_plainTells : gM := (yX12_plainTells, cX12_plainTells, 2, (some .int), { frames := 6, cells := 0, slots := 0, locals := 127 })
abbrev mX12_tellsIt : gM := (yX12_tellsIt, cX12_tellsIt, 3, (some .int), { frames := 7, cells := 0, slots := 0, locals := 148 })
abbrev mX12_act : gM := (yX12_act, cX12_act, 6, (some .int), { frames := 8, cells := 0, slots := 0, locals := 170 })
abbrev mX12_trace : gM := (yX12_trace, cX12_trace, 2, (some .int), { frames := 1, cells := 0, slots := 0, locals := 22 })
abbrev mX12_many : gM := (yX12_many, cX12_many, 2, (some .int), { frames := 0, cells := 0, slots := 0, locals := 0 })
abbrev mX12_moveRow : gM := (yX12_moveRow, cX12_moveRow, 5, none, { frames := 0, cells := 0, slots := 0, locals := 0 })
abbrev mX12_moveAll : gM := (yX12_moveAll, cX12_moveAll, 2, none, { frames := 1, cells := 0, slots := 0, locals := 24 })
abbrev mX12_keep : gM := (yX12_keep, cX12_keep, 1, (some .int), { frames := 2, cells := 0, slots := 0, locals := 45 })
abbrev mX12_again : gM := (yX12_again, cX12_again, 1, (some .int), { frames := 2, cells := 0, slots := 0, locals := 45 })
abbrev mJ6_bitCount_0f7a4 : gM := (yJ6_bitCount_0f7a4, cJ6_bitCount_0f7a4, 1, (some .int), { frames := 0, cells := 0, slots := 0, locals := 0 })
abbrev mJ9_max_7cf53 : gM := (yJ9_max_7cf53, cJ9_max_7cf53, 2, (some .int), { frames := 0, cells := 0, slots := 0, locals := 0 })
abbrev mJ9_max_f86c9 : gM := (yJ9_max_f86c9, cJ9_max_f86c9, 4, (some .long), { frames := 0, cells := 0, slots := 0, locals := 0 })
abbrev mJ9_min_7cf53 : gM := (yJ9_min_7cf53, cJ9_min_7cf53, 2, (some .int), { frames := 0, cells := 0, slots := 0, locals := 0 })
abbrev mJ9_min_f86c9 : gM := (yJ9_min_f86c9, cJ9_min_f86c9, 4, (some .long), { frames := 0, cells := 0, slots := 0, locals := 0 })
abbrev mJ0_length_8abf5 : gM := (yJ0_length_8abf5, cJ0_length_8abf5, 1, (some .int), { frames := 1, cells := 0, slots := 0, locals := 20 })
abbrev mJ0_charAt_5068e : gM := (yJ0_charAt_5068e, cJ0_charAt_5068e, 2, (some .char), { frames := 4, cells := 0, slots := 0, locals := 85 })
abbrev mJ0_coder_7d493 : gM := (yJ0_coder_7d493, cJ0_coder_7d493, 1, (some .byte), { frames := 0, cells := 0, slots := 0, locals := 0 })
abbrev mJ0_isLatin1_aae02 : gM := (yJ0_isLatin1_aae02, cJ0_isLatin1_aae02, 1, (some .boolean), { frames := 0, cells := 0, slots := 0, locals := 0 })
abbrev mJ0_checkIndex_df160 : gM := (yJ0_checkIndex_df160, cJ0_checkIndex_df160, 2, none, { frames := 1, cells := 0, slots := 0, locals := 22 })
abbrev mJ1_charAt_3b067 : gM := (yJ1_charAt_3b067, cJ1_charAt_3b067, 2, (some .char), { frames := 2, cells := 0, slots := 0, locals := 43 })
abbrev mJ2_getChar_3b067 : gM := (yJ2_getChar_3b067, cJ2_getChar_3b067, 2, (some .char), { frames := 1, cells := 0, slots := 0, locals := 20 })
abbrev mJ2_length_9d52b : gM := (yJ2_length_9d52b, cJ2_length_9d52b, 1, (some .int), { frames := 0, cells := 0, slots := 0, locals := 0 })
abbrev mJ2_charAt_3b067 : gM := (yJ2_charAt_3b067, cJ2_charAt_3b067, 2, (some .char), { frames := 3, cells := 0, slots := 0, locals := 64 })
abbrev mJ2_checkIndex_2214a : gM := (yJ2_checkIndex_2214a, cJ2_checkIndex_2214a, 2, none, { frames := 2, cells := 0, slots := 0, locals := 43 })
abbrev mJ7_fill_53178 : gM := (yJ7_fill_53178, cJ7_fill_53178, 4, none, { frames := 0, cells := 0, slots := 0, locals := 0 })
abbrev mJ3_checkIndex_8e157 : gM := (yJ3_checkIndex_8e157, cJ3_checkIndex_8e157, 3, (some .int), { frames := 0, cells := 0, slots := 0, locals := 0 })
theorem gin_of (ws : List Cond) (ps : List Nat) (hp : ws = ps.filterMap (fun i => lw_tbl[i]?)) (h : ws.all goodWord = true) : ∀ w ∈ ws, w ∈ gT := by
  intro w hw
  have h1 := List.all_eq_true.mp h w hw
  rw [hp] at hw
  obtain ⟨i, -, hi⟩ := List.mem_filterMap.mp hw
  exact gT_in i hi h1
theorem lkX0_init : gLk mX0_init 3 := ⟨gT_in 948 (by decide +kernel) rfl, gT_in 100 (by decide +kernel) rfl, by decide +kernel, by decide +kernel⟩
theorem lkX0_shares : gLk mX0_shares 1 := ⟨gT_in 1024 (by decide +kernel) rfl, gT_in 100 (by decide +kernel) rfl, by decide +kernel, by decide +kernel⟩
theorem lkX0_leads : gLk mX0_leads 1 := ⟨gT_in 977 (by decide +kernel) rfl, gT_in 100 (by decide +kernel) rfl, by decide +kernel, by decide +kernel⟩
theorem lkX1_init : gLk mX1_init 0 := ⟨gT_in 235 (by decide +kernel) rfl, gT_in 85 (by decide +kernel) rfl, by decide +kernel, by decide +kernel⟩
theorem lkX1_joinAll : gLk mX1_joinAll 1 := ⟨gT_in 665 (by decide +kernel) rfl, gT_in 85 (by decide +kernel) rfl, by decide +kernel, by decide +kernel⟩
theorem lkX1_joinedToo : gLk mX1_joinedToo 3 := ⟨gT_in 669 (by decide +kernel) rfl, gT_in 85 (by decide +kernel) rfl, by decide +kernel, by decide +kernel⟩
theorem lkX1_joins : gLk mX1_joins 3 := ⟨gT_in 680 (by decide +kernel) rfl, gT_in 85 (by decide +kernel) rfl, by decide +kernel, by decide +kernel⟩
theorem lkX1_lookAhead : gLk mX1_lookAhead 1 := ⟨gT_in 661 (by decide +kernel) rfl, gT_in 85 (by decide +kernel) rfl, by decide +kernel, by decide +kernel⟩
theorem lkX1_oddsOf : gLk mX1_oddsOf 2 := ⟨gT_in 676 (by decide +kernel) rfl, gT_in 85 (by decide +kernel) rfl, by decide +kernel, by decide +kernel⟩
theorem lkX1_oddsReach : gLk mX1_oddsReach 3 := ⟨gT_in 723 (by decide +kernel) rfl, gT_in 85 (by decide +kernel) rfl, by decide +kernel, by decide +kernel⟩
theorem lkX1_mix : gLk mX1_mix 4 := ⟨gT_in 699 (by decide +kernel) rfl, gT_in 85 (by decide +kernel) rfl, by decide +kernel, by decide +kernel⟩
theorem lkX1_valueWhereJoined : gLk mX1_valueWhereJoined 3 := ⟨gT_in 695 (by decide +kernel) rfl, gT_in 85 (by decide +kernel) rfl, by decide +kernel, by decide +kernel⟩
theorem lkX1_bestHeld : gLk mX1_bestHeld 4 := ⟨gT_in 691 (by decide +kernel) rfl, gT_in 85 (by decide +kernel) rfl, by decide +kernel, by decide +kernel⟩
theorem lkX1_isBetterHeld : gLk mX1_isBetterHeld 2 := ⟨gT_in 704 (by decide +kernel) rfl, gT_in 85 (by decide +kernel) rfl, by decide +kernel, by decide +kernel⟩
theorem lkX1_fewestKept : gLk mX1_fewestKept 3 := ⟨gT_in 712 (by decide +kernel) rfl, gT_in 85 (by decide +kernel) rfl, by decide +kernel, by decide +kernel⟩
theorem lkX1_surePaths : gLk mX1_surePaths 1 := ⟨gT_in 715 (by decide +kernel) rfl, gT_in 85 (by decide +kernel) rfl, by decide +kernel, by decide +kernel⟩
theorem lkX1_bestWithin : gLk mX1_bestWithin 4 := ⟨gT_in 733 (by decide +kernel) rfl, gT_in 85 (by decide +kernel) rfl, by decide +kernel, by decide +kernel⟩
theorem lkX1_bestWait : gLk mX1_bestWait 2 := ⟨gT_in 753 (by decide +kernel) rfl, gT_in 85 (by decide +kernel) rfl, by decide +kernel, by decide +kernel⟩
theorem lkX1_valueOfWaiting : gLk mX1_valueOfWaiting 1 := ⟨gT_in 757 (by decide +kernel) rfl, gT_in 85 (by decide +kernel) rfl, by decide +kernel, by decide +kernel⟩
theorem lkX1_waitOneNight : gLk mX1_waitOneNight 1 := ⟨gT_in 738 (by decide +kernel) rfl, gT_in 85 (by decide +kernel) rfl, by decide +kernel, by decide +kernel⟩
theorem lkX1_goWhereBest : gLk mX1_goWhereBest 0 := ⟨gT_in 742 (by decide +kernel) rfl, gT_in 85 (by decide +kernel) rfl, by decide +kernel, by decide +kernel⟩
theorem lkX1_bestReached : gLk mX1_bestReached 2 := ⟨gT_in 746 (by decide +kernel) rfl, gT_in 85 (by decide +kernel) rfl, by decide +kernel, by decide +kernel⟩
theorem lkX2_init : gLk mX2_init 3 := ⟨gT_in 938 (by decide +kernel) rfl, gT_in 99 (by decide +kernel) rfl, by decide +kernel, by decide +kernel⟩
theorem lkX2_leads : gLk mX2_leads 1 := ⟨gT_in 987 (by decide +kernel) rfl, gT_in 99 (by decide +kernel) rfl, by decide +kernel, by decide +kernel⟩
theorem lkX2_stays : gLk mX2_stays 1 := ⟨gT_in 1010 (by decide +kernel) rfl, gT_in 99 (by decide +kernel) rfl, by decide +kernel, by decide +kernel⟩
theorem lkX3_init : gLk mX3_init 3 := ⟨gT_in 892 (by decide +kernel) rfl, gT_in 96 (by decide +kernel) rfl, by decide +kernel, by decide +kernel⟩
theorem lkX3_leads : gLk mX3_leads 1 := ⟨gT_in 997 (by decide +kernel) rfl, gT_in 96 (by decide +kernel) rfl, by decide +kernel, by decide +kernel⟩
theorem lkX3_stays : gLk mX3_stays 1 := ⟨gT_in 1016 (by decide +kernel) rfl, gT_in 96 (by decide +kernel) rfl, by decide +kernel, by decide +kernel⟩
theorem lkX3_shares : gLk mX3_shares 1 := ⟨gT_in 1039 (by decide +kernel) rfl, gT_in 96 (by decide +kernel) rfl, by decide +kernel, by decide +kernel⟩
theorem lkX3_tells : gLk mX3_tells 1 := ⟨gT_in 1058 (by decide +kernel) rfl, gT_in 96 (by decide +kernel) rfl, by decide +kernel, by decide +kernel⟩
theorem lkX4_init : gLk mX4_init 3 := ⟨gT_in 958 (by decide +kernel) rfl, gT_in 101 (by decide +kernel) rfl, by decide +kernel, by decide +kernel⟩
theorem lkX4_tells : gLk mX4_tells 1 := ⟨gT_in 1048 (by decide +kernel) rfl, gT_in 101 (by decide +kernel) rfl, by decide +kernel, by decide +kernel⟩
theorem lkX4_shares : gLk mX4_shares 1 := ⟨gT_in 1031 (by decide +kernel) rfl, gT_in 101 (by decide +kernel) rfl, by decide +kernel, by decide +kernel⟩
theorem lkX5_init : gLk mX5_init 2 := ⟨gT_in 839 (by decide +kernel) rfl, gT_in 95 (by decide +kernel) rfl, by decide +kernel, by decide +kernel⟩
theorem lkX5_narrowed : gLk mX5_narrowed 1 := ⟨gT_in 857 (by decide +kernel) rfl, gT_in 95 (by decide +kernel) rfl, by decide +kernel, by decide +kernel⟩
theorem lkX6_init : gLk mX6_init 0 := ⟨gT_in 205 (by decide +kernel) rfl, gT_in 84 (by decide +kernel) rfl, by decide +kernel, by decide +kernel⟩
theorem lkX6_take : gLk mX6_take 2 := ⟨gT_in 325 (by decide +kernel) rfl, gT_in 84 (by decide +kernel) rfl, by decide +kernel, by decide +kernel⟩
theorem lkX6_tellTo : gLk mX6_tellTo 1 := ⟨gT_in 344 (by decide +kernel) rfl, gT_in 84 (by decide +kernel) rfl, by decide +kernel, by decide +kernel⟩
theorem lkX6_tellThing : gLk mX6_tellThing 1 := ⟨gT_in 359 (by decide +kernel) rfl, gT_in 84 (by decide +kernel) rfl, by decide +kernel, by decide +kernel⟩
theorem lkX6_kindTold : gLk mX6_kindTold 0 := ⟨gT_in 363 (by decide +kernel) rfl, gT_in 84 (by decide +kernel) rfl, by decide +kernel, by decide +kernel⟩
theorem lkX6_tellPath : gLk mX6_tellPath 2 := ⟨gT_in 425 (by decide +kernel) rfl, gT_in 84 (by decide +kernel) rfl, by decide +kernel, by decide +kernel⟩
theorem lkX6_tellWalker : gLk mX6_tellWalker 1 := ⟨gT_in 454 (by decide +kernel) rfl, gT_in 84 (by decide +kernel) rfl, by decide +kernel, by decide +kernel⟩
theorem lkX6_tellWeight : gLk mX6_tellWeight 1 := ⟨gT_in 469 (by decide +kernel) rfl, gT_in 84 (by decide +kernel) rfl, by decide +kernel, by decide +kernel⟩
theorem lkX6_takesWordIfThere : gLk mX6_takesWordIfThere 1 := ⟨gT_in 448 (by decide +kernel) rfl, gT_in 84 (by decide +kernel) rfl, by decide +kernel, by decide +kernel⟩
theorem lkX6_takesWord : gLk mX6_takesWord 1 := ⟨gT_in 434 (by decide +kernel) rfl, gT_in 84 (by decide +kernel) rfl, by decide +kernel, by decide +kernel⟩
theorem lkX6_takesNumber : gLk mX6_takesNumber 2 := ⟨gT_in 429 (by decide +kernel) rfl, gT_in 84 (by decide +kernel) rfl, by decide +kernel, by decide +kernel⟩
theorem lkX6_takesEnd : gLk mX6_takesEnd 0 := ⟨gT_in 473 (by decide +kernel) rfl, gT_in 84 (by decide +kernel) rfl, by decide +kernel, by decide +kernel⟩
theorem lkX6_isWord : gLk mX6_isWord 1 := ⟨gT_in 368 (by decide +kernel) rfl, gT_in 84 (by decide +kernel) rfl, by decide +kernel, by decide +kernel⟩
theorem lkX6_step : gLk mX6_step 0 := ⟨gT_in 348 (by decide +kernel) rfl, gT_in 84 (by decide +kernel) rfl, by decide +kernel, by decide +kernel⟩
theorem lkX6_sortOf : gLk mX6_sortOf 1 := ⟨gT_in 355 (by decide +kernel) rfl, gT_in 84 (by decide +kernel) rfl, by decide +kernel, by decide +kernel⟩
theorem lkX6_byteAt : gLk mX6_byteAt 1 := ⟨gT_in 352 (by decide +kernel) rfl, gT_in 84 (by decide +kernel) rfl, by decide +kernel, by decide +kernel⟩
theorem lkX7_init : gLk mX7_init 0 := ⟨gT_in 261 (by decide +kernel) rfl, gT_in 86 (by decide +kernel) rfl, by decide +kernel, by decide +kernel⟩
theorem lkX7_clear : gLk mX7_clear 0 := ⟨gT_in 880 (by decide +kernel) rfl, gT_in 86 (by decide +kernel) rfl, by decide +kernel, by decide +kernel⟩
theorem lkX7_begin : gLk mX7_begin 1 := ⟨gT_in 981 (by decide +kernel) rfl, gT_in 86 (by decide +kernel) rfl, by decide +kernel, by decide +kernel⟩
theorem lkX8_init : gLk mX8_init 3 := ⟨gT_in 889 (by decide +kernel) rfl, gT_in 97 (by decide +kernel) rfl, by decide +kernel, by decide +kernel⟩
theorem lkX8_stays : gLk mX8_stays 1 := ⟨gT_in 1005 (by decide +kernel) rfl, gT_in 97 (by decide +kernel) rfl, by decide +kernel, by decide +kernel⟩
theorem lkX9_init : gLk mX9_init 3 := ⟨gT_in 928 (by decide +kernel) rfl, gT_in 98 (by decide +kernel) rfl, by decide +kernel, by decide +kernel⟩
theorem lkX9_leads : gLk mX9_leads 1 := ⟨gT_in 994 (by decide +kernel) rfl, gT_in 98 (by decide +kernel) rfl, by decide +kernel, by decide +kernel⟩
theorem lkX9_tells : gLk mX9_tells 1 := ⟨gT_in 1053 (by decide +kernel) rfl, gT_in 98 (by decide +kernel) rfl, by decide +kernel, by decide +kernel⟩
theorem lkX10_init : gLk mX10_init 0 := ⟨gT_in 114 (by decide +kernel) rfl, gT_in 82 (by decide +kernel) rfl, by decide +kernel, by decide +kernel⟩
theorem lkX10_copyFrom : gLk mX10_copyFrom 1 := ⟨gT_in 333 (by decide +kernel) rfl, gT_in 82 (by decide +kernel) rfl, by decide +kernel, by decide +kernel⟩
theorem lkX10_clear : gLk mX10_clear 0 := ⟨gT_in 340 (by decide +kernel) rfl, gT_in 82 (by decide +kernel) rfl, by decide +kernel, by decide +kernel⟩
theorem lkX10_hasPath : gLk mX10_hasPath 1 := ⟨gT_in 495 (by decide +kernel) rfl, gT_in 82 (by decide +kernel) rfl, by decide +kernel, by decide +kernel⟩
theorem lkX10_hasWalker : gLk mX10_hasWalker 1 := ⟨gT_in 551 (by decide +kernel) rfl, gT_in 82 (by decide +kernel) rfl, by decide +kernel, by decide +kernel⟩
theorem lkX10_hasRule : gLk mX10_hasRule 1 := ⟨gT_in 778 (by decide +kernel) rfl, gT_in 82 (by decide +kernel) rfl, by decide +kernel, by decide +kernel⟩
theorem lkX10_addPath : gLk mX10_addPath 5 := ⟨gT_in 439 (by decide +kernel) rfl, gT_in 82 (by decide +kernel) rfl, by decide +kernel, by decide +kernel⟩
theorem lkX10_addWalker : gLk mX10_addWalker 2 := ⟨gT_in 459 (by decide +kernel) rfl, gT_in 82 (by decide +kernel) rfl, by decide +kernel, by decide +kernel⟩
theorem lkX10_addRule : gLk mX10_addRule 2 := ⟨gT_in 770 (by decide +kernel) rfl, gT_in 82 (by decide +kernel) rfl, by decide +kernel, by decide +kernel⟩
theorem lkX10_isThere : gLk mX10_isThere 1 := ⟨gT_in 500 (by decide +kernel) rfl, gT_in 82 (by decide +kernel) rfl, by decide +kernel, by decide +kernel⟩
theorem lkX10_setThere : gLk mX10_setThere 2 := ⟨gT_in 443 (by decide +kernel) rfl, gT_in 82 (by decide +kernel) rfl, by decide +kernel, by decide +kernel⟩
theorem lkX10_endsAt : gLk mX10_endsAt 2 := ⟨gT_in 564 (by decide +kernel) rfl, gT_in 82 (by decide +kernel) rfl, by decide +kernel, by decide +kernel⟩
theorem lkX10_otherEnd : gLk mX10_otherEnd 2 := ⟨gT_in 572 (by decide +kernel) rfl, gT_in 82 (by decide +kernel) rfl, by decide +kernel, by decide +kernel⟩
theorem lkX10_walkersOn : gLk mX10_walkersOn 1 := ⟨gT_in 525 (by decide +kernel) rfl, gT_in 82 (by decide +kernel) rfl, by decide +kernel, by decide +kernel⟩
theorem lkX10_pathsWalked : gLk mX10_pathsWalked 0 := ⟨gT_in 620 (by decide +kernel) rfl, gT_in 82 (by decide +kernel) rfl, by decide +kernel, by decide +kernel⟩
theorem lkX10_payOf : gLk mX10_payOf 1 := ⟨gT_in 625 (by decide +kernel) rfl, gT_in 82 (by decide +kernel) rfl, by decide +kernel, by decide +kernel⟩
theorem lkX10_mayStep : gLk mX10_mayStep 2 := ⟨gT_in 559 (by decide +kernel) rfl, gT_in 82 (by decide +kernel) rfl, by decide +kernel, by decide +kernel⟩
theorem lkX10_goAlong : gLk mX10_goAlong 2 := ⟨gT_in 568 (by decide +kernel) rfl, gT_in 82 (by decide +kernel) rfl, by decide +kernel, by decide +kernel⟩
theorem lkX10_comeOn : gLk mX10_comeOn 2 := ⟨gT_in 580 (by decide +kernel) rfl, gT_in 82 (by decide +kernel) rfl, by decide +kernel, by decide +kernel⟩
theorem lkX10_setDown : gLk mX10_setDown 2 := ⟨gT_in 463 (by decide +kernel) rfl, gT_in 82 (by decide +kernel) rfl, by decide +kernel, by decide +kernel⟩
theorem lkX10_someoneAtEnd : gLk mX10_someoneAtEnd 1 := ⟨gT_in 517 (by decide +kernel) rfl, gT_in 82 (by decide +kernel) rfl, by decide +kernel, by decide +kernel⟩
theorem lkX10_staysOf : gLk mX10_staysOf 1 := ⟨gT_in 507 (by decide +kernel) rfl, gT_in 82 (by decide +kernel) rfl, by decide +kernel, by decide +kernel⟩
theorem lkX10_comesOf : gLk mX10_comesOf 1 := ⟨gT_in 521 (by decide +kernel) rfl, gT_in 82 (by decide +kernel) rfl, by decide +kernel, by decide +kernel⟩
theorem lkX10_chanceOf : gLk mX10_chanceOf 2 := ⟨gT_in 610 (by decide +kernel) rfl, gT_in 82 (by decide +kernel) rfl, by decide +kernel, by decide +kernel⟩
theorem lkX10_passNight : gLk mX10_passNight 0 := ⟨gT_in 604 (by decide +kernel) rfl, gT_in 82 (by decide +kernel) rfl, by decide +kernel, by decide +kernel⟩
theorem lkX10_grown : gLk mX10_grown 1 := ⟨gT_in 641 (by decide +kernel) rfl, gT_in 82 (by decide +kernel) rfl, by decide +kernel, by decide +kernel⟩
theorem lkX10_reachFrom : gLk mX10_reachFrom 1 := ⟨gT_in 649 (by decide +kernel) rfl, gT_in 82 (by decide +kernel) rfl, by decide +kernel, by decide +kernel⟩
theorem lkX10_nearFirstClearing : gLk mX10_nearFirstClearing 0 := ⟨gT_in 807 (by decide +kernel) rfl, gT_in 82 (by decide +kernel) rfl, by decide +kernel, by decide +kernel⟩
theorem lkX10_distance : gLk mX10_distance 2 := ⟨gT_in 637 (by decide +kernel) rfl, gT_in 82 (by decide +kernel) rfl, by decide +kernel, by decide +kernel⟩
theorem lkX10_firstStep : gLk mX10_firstStep 2 := ⟨gT_in 794 (by decide +kernel) rfl, gT_in 82 (by decide +kernel) rfl, by decide +kernel, by decide +kernel⟩
theorem lkX11_init : gLk mX11_init 0 := ⟨gT_in 106 (by decide +kernel) rfl, gT_in 81 (by decide +kernel) rfl, by decide +kernel, by decide +kernel⟩
theorem lkX11_feed : gLk mX11_feed 2 := ⟨gT_in 321 (by decide +kernel) rfl, gT_in 81 (by decide +kernel) rfl, by decide +kernel, by decide +kernel⟩
theorem lkX11_wood : gLk mX11_wood 0 := ⟨gT_in 329 (by decide +kernel) rfl, gT_in 81 (by decide +kernel) rfl, by decide +kernel, by decide +kernel⟩
theorem lkX11_path : gLk mX11_path 5 := ⟨gT_in 477 (by decide +kernel) rfl, gT_in 81 (by decide +kernel) rfl, by decide +kernel, by decide +kernel⟩
theorem lkX11_pathOf : gLk mX11_pathOf 2 := ⟨gT_in 491 (by decide +kernel) rfl, gT_in 81 (by decide +kernel) rfl, by decide +kernel, by decide +kernel⟩
theorem lkX11_open : gLk mX11_open 2 := ⟨gT_in 529 (by decide +kernel) rfl, gT_in 81 (by decide +kernel) rfl, by decide +kernel, by decide +kernel⟩
theorem lkX11_rain : gLk mX11_rain 1 := ⟨gT_in 534 (by decide +kernel) rfl, gT_in 81 (by decide +kernel) rfl, by decide +kernel, by decide +kernel⟩
theorem lkX11_weigh : gLk mX11_weigh 2 := ⟨gT_in 538 (by decide +kernel) rfl, gT_in 81 (by decide +kernel) rfl, by decide +kernel, by decide +kernel⟩
theorem lkX11_walker : gLk mX11_walker 2 := ⟨gT_in 542 (by decide +kernel) rfl, gT_in 81 (by decide +kernel) rfl, by decide +kernel, by decide +kernel⟩
theorem lkX11_walkerOf : gLk mX11_walkerOf 2 := ⟨gT_in 547 (by decide +kernel) rfl, gT_in 81 (by decide +kernel) rfl, by decide +kernel, by decide +kernel⟩
theorem lkX11_walk : gLk mX11_walk 2 := ⟨gT_in 555 (by decide +kernel) rfl, gT_in 81 (by decide +kernel) rfl, by decide +kernel, by decide +kernel⟩
theorem lkX11_on : gLk mX11_on 2 := ⟨gT_in 576 (by decide +kernel) rfl, gT_in 81 (by decide +kernel) rfl, by decide +kernel, by decide +kernel⟩
theorem lkX11_off : gLk mX11_off 2 := ⟨gT_in 590 (by decide +kernel) rfl, gT_in 81 (by decide +kernel) rfl, by decide +kernel, by decide +kernel⟩
theorem lkX11_put : gLk mX11_put 2 := ⟨gT_in 596 (by decide +kernel) rfl, gT_in 81 (by decide +kernel) rfl, by decide +kernel, by decide +kernel⟩
theorem lkX11_night : gLk mX11_night 1 := ⟨gT_in 600 (by decide +kernel) rfl, gT_in 81 (by decide +kernel) rfl, by decide +kernel, by decide +kernel⟩
theorem lkX11_count : gLk mX11_count 1 := ⟨gT_in 616 (by decide +kernel) rfl, gT_in 81 (by decide +kernel) rfl, by decide +kernel, by decide +kernel⟩
theorem lkX11_seed : gLk mX11_seed 1 := ⟨gT_in 629 (by decide +kernel) rfl, gT_in 81 (by decide +kernel) rfl, by decide +kernel, by decide +kernel⟩
theorem lkX11_way : gLk mX11_way 2 := ⟨gT_in 633 (by decide +kernel) rfl, gT_in 81 (by decide +kernel) rfl, by decide +kernel, by decide +kernel⟩
theorem lkX11_reach : gLk mX11_reach 1 := ⟨gT_in 645 (by decide +kernel) rfl, gT_in 81 (by decide +kernel) rfl, by decide +kernel, by decide +kernel⟩
theorem lkX11_odds : gLk mX11_odds 3 := ⟨gT_in 653 (by decide +kernel) rfl, gT_in 81 (by decide +kernel) rfl, by decide +kernel, by decide +kernel⟩
theorem lkX11_held : gLk mX11_held 3 := ⟨gT_in 687 (by decide +kernel) rfl, gT_in 81 (by decide +kernel) rfl, by decide +kernel, by decide +kernel⟩
theorem lkX11_keepers : gLk mX11_keepers 3 := ⟨gT_in 708 (by decide +kernel) rfl, gT_in 81 (by decide +kernel) rfl, by decide +kernel, by decide +kernel⟩
theorem lkX11_home : gLk mX11_home 2 := ⟨gT_in 719 (by decide +kernel) rfl, gT_in 81 (by decide +kernel) rfl, by decide +kernel, by decide +kernel⟩
theorem lkX11_within : gLk mX11_within 4 := ⟨gT_in 729 (by decide +kernel) rfl, gT_in 81 (by decide +kernel) rfl, by decide +kernel, by decide +kernel⟩
theorem lkX11_seek : gLk mX11_seek 1 := ⟨gT_in 761 (by decide +kernel) rfl, gT_in 81 (by decide +kernel) rfl, by decide +kernel, by decide +kernel⟩
theorem lkX11_rule : gLk mX11_rule 2 := ⟨gT_in 766 (by decide +kernel) rfl, gT_in 81 (by decide +kernel) rfl, by decide +kernel, by decide +kernel⟩
theorem lkX11_ruleOf : gLk mX11_ruleOf 2 := ⟨gT_in 774 (by decide +kernel) rfl, gT_in 81 (by decide +kernel) rfl, by decide +kernel, by decide +kernel⟩
theorem lkX11_does : gLk mX11_does 2 := ⟨gT_in 782 (by decide +kernel) rfl, gT_in 81 (by decide +kernel) rfl, by decide +kernel, by decide +kernel⟩
theorem lkX11_goes : gLk mX11_goes 2 := ⟨gT_in 799 (by decide +kernel) rfl, gT_in 81 (by decide +kernel) rfl, by decide +kernel, by decide +kernel⟩
theorem lkX11_prove : gLk mX11_prove 1 := ⟨gT_in 803 (by decide +kernel) rfl, gT_in 81 (by decide +kernel) rfl, by decide +kernel, by decide +kernel⟩
theorem lkX11_row : gLk mX11_row 2 := ⟨gT_in 813 (by decide +kernel) rfl, gT_in 81 (by decide +kernel) rfl, by decide +kernel, by decide +kernel⟩
theorem lkX11_alterRow : gLk mX11_alterRow 3 := ⟨gT_in 817 (by decide +kernel) rfl, gT_in 81 (by decide +kernel) rfl, by decide +kernel, by decide +kernel⟩
theorem lkX11_judge : gLk mX11_judge 0 := ⟨gT_in 821 (by decide +kernel) rfl, gT_in 81 (by decide +kernel) rfl, by decide +kernel, by decide +kernel⟩
theorem lkX11_lays : gLk mX11_lays 1 := ⟨gT_in 825 (by decide +kernel) rfl, gT_in 81 (by decide +kernel) rfl, by decide +kernel, by decide +kernel⟩
theorem lkX11_sheet : gLk mX11_sheet 3 := ⟨gT_in 835 (by decide +kernel) rfl, gT_in 81 (by decide +kernel) rfl, by decide +kernel, by decide +kernel⟩
theorem lkX11_write : gLk mX11_write 3 := ⟨gT_in 853 (by decide +kernel) rfl, gT_in 81 (by decide +kernel) rfl, by decide +kernel, by decide +kernel⟩
theorem lkX11_item : gLk mX11_item 3 := ⟨gT_in 861 (by decide +kernel) rfl, gT_in 81 (by decide +kernel) rfl, by decide +kernel, by decide +kernel⟩
theorem lkX11_shelf : gLk mX11_shelf 3 := ⟨gT_in 865 (by decide +kernel) rfl, gT_in 81 (by decide +kernel) rfl, by decide +kernel, by decide +kernel⟩
theorem lkX11_taken : gLk mX11_taken 2 := ⟨gT_in 869 (by decide +kernel) rfl, gT_in 81 (by decide +kernel) rfl, by decide +kernel, by decide +kernel⟩
theorem lkX11_act : gLk mX11_act 3 := ⟨gT_in 876 (by decide +kernel) rfl, gT_in 81 (by decide +kernel) rfl, by decide +kernel, by decide +kernel⟩
theorem lkX11_trace : gLk mX11_trace 1 := ⟨gT_in 1063 (by decide +kernel) rfl, gT_in 81 (by decide +kernel) rfl, by decide +kernel, by decide +kernel⟩
theorem lkX11_many : gLk mX11_many 1 := ⟨gT_in 1067 (by decide +kernel) rfl, gT_in 81 (by decide +kernel) rfl, by decide +kernel, by decide +kernel⟩
theorem lkX11_keep : gLk mX11_keep 0 := ⟨gT_in 1071 (by decide +kernel) rfl, gT_in 81 (by decide +kernel) rfl, by decide +kernel, by decide +kernel⟩
theorem lkX11_again : gLk mX11_again 0 := ⟨gT_in 1075 (by decide +kernel) rfl, gT_in 81 (by decide +kernel) rfl, by decide +kernel, by decide +kernel⟩
theorem lkX11_isBelow : gLk mX11_isBelow 2 := ⟨gT_in 483 (by decide +kernel) rfl, gT_in 81 (by decide +kernel) rfl, by decide +kernel, by decide +kernel⟩
theorem lkX11_isUpTo : gLk mX11_isUpTo 2 := ⟨gT_in 486 (by decide +kernel) rfl, gT_in 81 (by decide +kernel) rfl, by decide +kernel, by decide +kernel⟩
theorem lkX11_isClearing : gLk mX11_isClearing 1 := ⟨gT_in 480 (by decide +kernel) rfl, gT_in 81 (by decide +kernel) rfl, by decide +kernel, by decide +kernel⟩
theorem lkX11_isPart : gLk mX11_isPart 1 := ⟨gT_in 656 (by decide +kernel) rfl, gT_in 81 (by decide +kernel) rfl, by decide +kernel, by decide +kernel⟩
theorem lkX11_isInSet : gLk mX11_isInSet 2 := ⟨gT_in 503 (by decide +kernel) rfl, gT_in 81 (by decide +kernel) rfl, by decide +kernel, by decide +kernel⟩
theorem lkX11_partOf : gLk mX11_partOf 3 := ⟨gT_in 683 (by decide +kernel) rfl, gT_in 81 (by decide +kernel) rfl, by decide +kernel, by decide +kernel⟩
theorem lkX11_isOfKind : gLk mX11_isOfKind 2 := ⟨gT_in 872 (by decide +kernel) rfl, gT_in 81 (by decide +kernel) rfl, by decide +kernel, by decide +kernel⟩
theorem lkX11_stepBy : gLk mX11_stepBy 2 := ⟨gT_in 786 (by decide +kernel) rfl, gT_in 81 (by decide +kernel) rfl, by decide +kernel, by decide +kernel⟩
theorem lkX11_farthestSafe : gLk mX11_farthestSafe 2 := ⟨gT_in 790 (by decide +kernel) rfl, gT_in 81 (by decide +kernel) rfl, by decide +kernel, by decide +kernel⟩
theorem lkX11_thingOf : gLk mX11_thingOf 1 := ⟨gT_in 884 (by decide +kernel) rfl, gT_in 81 (by decide +kernel) rfl, by decide +kernel, by decide +kernel⟩
theorem lkX12_init : gLk mX12_init 0 := ⟨gT_in 1080 (by decide +kernel) rfl, gT_in 87 (by decide +kernel) rfl, by decide +kernel, by decide +kernel⟩
theorem lkX12_in : gLk mX12_in 3 := ⟨gT_in 1254 (by decide +kernel) rfl, gT_in 87 (by decide +kernel) rfl, by decide +kernel, by decide +kernel⟩
theorem lkX12_isClearing : gLk mX12_isClearing 1 := ⟨gT_in 1332 (by decide +kernel) rfl, gT_in 87 (by decide +kernel) rfl, by decide +kernel, by decide +kernel⟩
theorem lkX12_isPath : gLk mX12_isPath 1 := ⟨gT_in 1340 (by decide +kernel) rfl, gT_in 87 (by decide +kernel) rfl, by decide +kernel, by decide +kernel⟩
theorem lkX12_isWalker : gLk mX12_isWalker 1 := ⟨gT_in 1395 (by decide +kernel) rfl, gT_in 87 (by decide +kernel) rfl, by decide +kernel, by decide +kernel⟩
theorem lkX12_isSide : gLk mX12_isSide 1 := ⟨gT_in 1473 (by decide +kernel) rfl, gT_in 87 (by decide +kernel) rfl, by decide +kernel, by decide +kernel⟩
theorem lkX12_its : gLk mX12_its 2 := ⟨gT_in 1348 (by decide +kernel) rfl, gT_in 87 (by decide +kernel) rfl, by decide +kernel, by decide +kernel⟩
theorem lkX12_isThere : gLk mX12_isThere 1 := ⟨gT_in 1375 (by decide +kernel) rfl, gT_in 87 (by decide +kernel) rfl, by decide +kernel, by decide +kernel⟩
theorem lkX12_isEnd : gLk mX12_isEnd 2 := ⟨gT_in 1359 (by decide +kernel) rfl, gT_in 87 (by decide +kernel) rfl, by decide +kernel, by decide +kernel⟩
theorem lkX12_otherEnd : gLk mX12_otherEnd 2 := ⟨gT_in 1407 (by decide +kernel) rfl, gT_in 87 (by decide +kernel) rfl, by decide +kernel, by decide +kernel⟩
theorem lkX12_feed : gLk mX12_feed 2 := ⟨gT_in 1251 (by decide +kernel) rfl, gT_in 87 (by decide +kernel) rfl, by decide +kernel, by decide +kernel⟩
theorem lkX12_byteAt : gLk mX12_byteAt 1 := ⟨gT_in 1267 (by decide +kernel) rfl, gT_in 87 (by decide +kernel) rfl, by decide +kernel, by decide +kernel⟩
theorem lkX12_isLetter : gLk mX12_isLetter 1 := ⟨gT_in 1270 (by decide +kernel) rfl, gT_in 87 (by decide +kernel) rfl, by decide +kernel, by decide +kernel⟩
theorem lkX12_isDigit : gLk mX12_isDigit 1 := ⟨gT_in 1273 (by decide +kernel) rfl, gT_in 87 (by decide +kernel) rfl, by decide +kernel, by decide +kernel⟩
theorem lkX12_advance : gLk mX12_advance 0 := ⟨gT_in 1263 (by decide +kernel) rfl, gT_in 87 (by decide +kernel) rfl, by decide +kernel, by decide +kernel⟩
theorem lkX12_isWord : gLk mX12_isWord 1 := ⟨gT_in 1289 (by decide +kernel) rfl, gT_in 87 (by decide +kernel) rfl, by decide +kernel, by decide +kernel⟩
theorem lkX12_isMark : gLk mX12_isMark 1 := ⟨gT_in 1317 (by decide +kernel) rfl, gT_in 87 (by decide +kernel) rfl, by decide +kernel, by decide +kernel⟩
theorem lkX12_kindHere : gLk mX12_kindHere 0 := ⟨gT_in 1284 (by decide +kernel) rfl, gT_in 87 (by decide +kernel) rfl, by decide +kernel, by decide +kernel⟩
theorem lkX12_wantNumber : gLk mX12_wantNumber 1 := ⟨gT_in 1302 (by decide +kernel) rfl, gT_in 87 (by decide +kernel) rfl, by decide +kernel, by decide +kernel⟩
theorem lkX12_wantWord : gLk mX12_wantWord 1 := ⟨gT_in 1307 (by decide +kernel) rfl, gT_in 87 (by decide +kernel) rfl, by decide +kernel, by decide +kernel⟩
theorem lkX12_wantEnd : gLk mX12_wantEnd 0 := ⟨gT_in 1313 (by decide +kernel) rfl, gT_in 87 (by decide +kernel) rfl, by decide +kernel, by decide +kernel⟩
theorem lkX12_wantPath : gLk mX12_wantPath 1 := ⟨gT_in 1298 (by decide +kernel) rfl, gT_in 87 (by decide +kernel) rfl, by decide +kernel, by decide +kernel⟩
theorem lkX12_wantWalker : gLk mX12_wantWalker 0 := ⟨gT_in 1322 (by decide +kernel) rfl, gT_in 87 (by decide +kernel) rfl, by decide +kernel, by decide +kernel⟩
theorem lkX12_wantClause : gLk mX12_wantClause 0 := ⟨gT_in 1280 (by decide +kernel) rfl, gT_in 87 (by decide +kernel) rfl, by decide +kernel, by decide +kernel⟩
theorem lkX12_wood : gLk mX12_wood 0 := ⟨gT_in 1259 (by decide +kernel) rfl, gT_in 87 (by decide +kernel) rfl, by decide +kernel, by decide +kernel⟩
theorem lkX12_path : gLk mX12_path 5 := ⟨gT_in 1329 (by decide +kernel) rfl, gT_in 87 (by decide +kernel) rfl, by decide +kernel, by decide +kernel⟩
theorem lkX12_kept : gLk mX12_kept 2 := ⟨gT_in 1351 (by decide +kernel) rfl, gT_in 87 (by decide +kernel) rfl, by decide +kernel, by decide +kernel⟩
theorem lkX12_isRidden : gLk mX12_isRidden 1 := ⟨gT_in 1355 (by decide +kernel) rfl, gT_in 87 (by decide +kernel) rfl, by decide +kernel, by decide +kernel⟩
theorem lkX12_staysOf : gLk mX12_staysOf 1 := ⟨gT_in 1344 (by decide +kernel) rfl, gT_in 87 (by decide +kernel) rfl, by decide +kernel, by decide +kernel⟩
theorem lkX12_comesOf : gLk mX12_comesOf 1 := ⟨gT_in 1363 (by decide +kernel) rfl, gT_in 87 (by decide +kernel) rfl, by decide +kernel, by decide +kernel⟩
theorem lkX12_onWhich : gLk mX12_onWhich 1 := ⟨gT_in 1367 (by decide +kernel) rfl, gT_in 87 (by decide +kernel) rfl, by decide +kernel, by decide +kernel⟩
theorem lkX12_heldSet : gLk mX12_heldSet 0 := ⟨gT_in 1434 (by decide +kernel) rfl, gT_in 87 (by decide +kernel) rfl, by decide +kernel, by decide +kernel⟩
theorem lkX12_pathOf : gLk mX12_pathOf 2 := ⟨gT_in 1336 (by decide +kernel) rfl, gT_in 87 (by decide +kernel) rfl, by decide +kernel, by decide +kernel⟩
theorem lkX12_open : gLk mX12_open 2 := ⟨gT_in 1371 (by decide +kernel) rfl, gT_in 87 (by decide +kernel) rfl, by decide +kernel, by decide +kernel⟩
theorem lkX12_rain : gLk mX12_rain 1 := ⟨gT_in 1379 (by decide +kernel) rfl, gT_in 87 (by decide +kernel) rfl, by decide +kernel, by decide +kernel⟩
theorem lkX12_weigh : gLk mX12_weigh 2 := ⟨gT_in 1383 (by decide +kernel) rfl, gT_in 87 (by decide +kernel) rfl, by decide +kernel, by decide +kernel⟩
theorem lkX12_walker : gLk mX12_walker 2 := ⟨gT_in 1387 (by decide +kernel) rfl, gT_in 87 (by decide +kernel) rfl, by decide +kernel, by decide +kernel⟩
theorem lkX12_walkerOf : gLk mX12_walkerOf 2 := ⟨gT_in 1391 (by decide +kernel) rfl, gT_in 87 (by decide +kernel) rfl, by decide +kernel, by decide +kernel⟩
theorem lkX12_canTake : gLk mX12_canTake 2 := ⟨gT_in 1403 (by decide +kernel) rfl, gT_in 87 (by decide +kernel) rfl, by decide +kernel, by decide +kernel⟩
theorem lkX12_walk : gLk mX12_walk 2 := ⟨gT_in 1399 (by decide +kernel) rfl, gT_in 87 (by decide +kernel) rfl, by decide +kernel, by decide +kernel⟩
theorem lkX12_ones : gLk mX12_ones 1 := ⟨gT_in 1414 (by decide +kernel) rfl, gT_in 87 (by decide +kernel) rfl, by decide +kernel, by decide +kernel⟩
theorem lkX12_on : gLk mX12_on 2 := ⟨gT_in 1411 (by decide +kernel) rfl, gT_in 87 (by decide +kernel) rfl, by decide +kernel, by decide +kernel⟩
theorem lkX12_off : gLk mX12_off 2 := ⟨gT_in 1418 (by decide +kernel) rfl, gT_in 87 (by decide +kernel) rfl, by decide +kernel, by decide +kernel⟩
theorem lkX12_put : gLk mX12_put 2 := ⟨gT_in 1422 (by decide +kernel) rfl, gT_in 87 (by decide +kernel) rfl, by decide +kernel, by decide +kernel⟩
theorem lkX12_next : gLk mX12_next 1 := ⟨gT_in 1437 (by decide +kernel) rfl, gT_in 87 (by decide +kernel) rfl, by decide +kernel, by decide +kernel⟩
theorem lkX12_behind : gLk mX12_behind 1 := ⟨gT_in 1430 (by decide +kernel) rfl, gT_in 87 (by decide +kernel) rfl, by decide +kernel, by decide +kernel⟩
theorem lkX12_night : gLk mX12_night 1 := ⟨gT_in 1426 (by decide +kernel) rfl, gT_in 87 (by decide +kernel) rfl, by decide +kernel, by decide +kernel⟩
theorem lkX12_count : gLk mX12_count 1 := ⟨gT_in 1442 (by decide +kernel) rfl, gT_in 87 (by decide +kernel) rfl, by decide +kernel, by decide +kernel⟩
theorem lkX12_seed : gLk mX12_seed 1 := ⟨gT_in 1446 (by decide +kernel) rfl, gT_in 87 (by decide +kernel) rfl, by decide +kernel, by decide +kernel⟩
theorem lkX12_grown : gLk mX12_grown 2 := ⟨gT_in 1458 (by decide +kernel) rfl, gT_in 87 (by decide +kernel) rfl, by decide +kernel, by decide +kernel⟩
theorem lkX12_reachBy : gLk mX12_reachBy 2 := ⟨gT_in 1466 (by decide +kernel) rfl, gT_in 87 (by decide +kernel) rfl, by decide +kernel, by decide +kernel⟩
theorem lkX12_wayOf : gLk mX12_wayOf 2 := ⟨gT_in 1454 (by decide +kernel) rfl, gT_in 87 (by decide +kernel) rfl, by decide +kernel, by decide +kernel⟩
theorem lkX12_way : gLk mX12_way 2 := ⟨gT_in 1450 (by decide +kernel) rfl, gT_in 87 (by decide +kernel) rfl, by decide +kernel, by decide +kernel⟩
theorem lkX12_reach : gLk mX12_reach 1 := ⟨gT_in 1462 (by decide +kernel) rfl, gT_in 87 (by decide +kernel) rfl, by decide +kernel, by decide +kernel⟩
theorem lkX12_lowest : gLk mX12_lowest 2 := ⟨gT_in 1497 (by decide +kernel) rfl, gT_in 87 (by decide +kernel) rfl, by decide +kernel, by decide +kernel⟩
theorem lkX12_findOften : gLk mX12_findOften 2 := ⟨gT_in 1485 (by decide +kernel) rfl, gT_in 87 (by decide +kernel) rfl, by decide +kernel, by decide +kernel⟩
theorem lkX12_oftenOf : gLk mX12_oftenOf 1 := ⟨gT_in 1489 (by decide +kernel) rfl, gT_in 87 (by decide +kernel) rfl, by decide +kernel, by decide +kernel⟩
theorem lkX12_oddsBy : gLk mX12_oddsBy 3 := ⟨gT_in 1481 (by decide +kernel) rfl, gT_in 87 (by decide +kernel) rfl, by decide +kernel, by decide +kernel⟩
theorem lkX12_allOdds : gLk mX12_allOdds 0 := ⟨gT_in 1493 (by decide +kernel) rfl, gT_in 87 (by decide +kernel) rfl, by decide +kernel, by decide +kernel⟩
theorem lkX12_oddsOf : gLk mX12_oddsOf 2 := ⟨gT_in 1477 (by decide +kernel) rfl, gT_in 87 (by decide +kernel) rfl, by decide +kernel, by decide +kernel⟩
theorem lkX12_odds : gLk mX12_odds 3 := ⟨gT_in 1470 (by decide +kernel) rfl, gT_in 87 (by decide +kernel) rfl, by decide +kernel, by decide +kernel⟩
theorem lkX12_held : gLk mX12_held 3 := ⟨gT_in 1501 (by decide +kernel) rfl, gT_in 87 (by decide +kernel) rfl, by decide +kernel, by decide +kernel⟩
theorem lkX12_keepers : gLk mX12_keepers 3 := ⟨gT_in 1505 (by decide +kernel) rfl, gT_in 87 (by decide +kernel) rfl, by decide +kernel, by decide +kernel⟩
theorem lkX12_home : gLk mX12_home 2 := ⟨gT_in 1509 (by decide +kernel) rfl, gT_in 87 (by decide +kernel) rfl, by decide +kernel, by decide +kernel⟩
theorem lkX12_findWins : gLk mX12_findWins 1 := ⟨gT_in 1518 (by decide +kernel) rfl, gT_in 87 (by decide +kernel) rfl, by decide +kernel, by decide +kernel⟩
theorem lkX12_mostOf : gLk mX12_mostOf 1 := ⟨gT_in 1522 (by decide +kernel) rfl, gT_in 87 (by decide +kernel) rfl, by decide +kernel, by decide +kernel⟩
theorem lkX12_withinTwo : gLk mX12_withinTwo 1 := ⟨gT_in 1526 (by decide +kernel) rfl, gT_in 87 (by decide +kernel) rfl, by decide +kernel, by decide +kernel⟩
theorem lkX12_within : gLk mX12_within 4 := ⟨gT_in 1514 (by decide +kernel) rfl, gT_in 87 (by decide +kernel) rfl, by decide +kernel, by decide +kernel⟩
theorem lkX12_seek : gLk mX12_seek 1 := ⟨gT_in 1530 (by decide +kernel) rfl, gT_in 87 (by decide +kernel) rfl, by decide +kernel, by decide +kernel⟩
theorem lkX12_isRule : gLk mX12_isRule 1 := ⟨gT_in 1542 (by decide +kernel) rfl, gT_in 87 (by decide +kernel) rfl, by decide +kernel, by decide +kernel⟩
theorem lkX12_rule : gLk mX12_rule 2 := ⟨gT_in 1534 (by decide +kernel) rfl, gT_in 87 (by decide +kernel) rfl, by decide +kernel, by decide +kernel⟩
theorem lkX12_ruleOf : gLk mX12_ruleOf 2 := ⟨gT_in 1538 (by decide +kernel) rfl, gT_in 87 (by decide +kernel) rfl, by decide +kernel, by decide +kernel⟩
theorem lkX12_firstPath : gLk mX12_firstPath 2 := ⟨gT_in 1554 (by decide +kernel) rfl, gT_in 87 (by decide +kernel) rfl, by decide +kernel, by decide +kernel⟩
theorem lkX12_backFrom : gLk mX12_backFrom 2 := ⟨gT_in 1558 (by decide +kernel) rfl, gT_in 87 (by decide +kernel) rfl, by decide +kernel, by decide +kernel⟩
theorem lkX12_goesBy : gLk mX12_goesBy 2 := ⟨gT_in 1550 (by decide +kernel) rfl, gT_in 87 (by decide +kernel) rfl, by decide +kernel, by decide +kernel⟩
theorem lkX12_goes : gLk mX12_goes 2 := ⟨gT_in 1546 (by decide +kernel) rfl, gT_in 87 (by decide +kernel) rfl, by decide +kernel, by decide +kernel⟩
theorem lkX12_does : gLk mX12_does 2 := ⟨gT_in 1563 (by decide +kernel) rfl, gT_in 87 (by decide +kernel) rfl, by decide +kernel, by decide +kernel⟩
theorem lkX12_findRows : gLk mX12_findRows 1 := ⟨gT_in 1571 (by decide +kernel) rfl, gT_in 87 (by decide +kernel) rfl, by decide +kernel, by decide +kernel⟩
theorem lkX12_prove : gLk mX12_prove 1 := ⟨gT_in 1567 (by decide +kernel) rfl, gT_in 87 (by decide +kernel) rfl, by decide +kernel, by decide +kernel⟩
theorem lkX12_isRow : gLk mX12_isRow 2 := ⟨gT_in 1579 (by decide +kernel) rfl, gT_in 87 (by decide +kernel) rfl, by decide +kernel, by decide +kernel⟩
theorem lkX12_row : gLk mX12_row 2 := ⟨gT_in 1575 (by decide +kernel) rfl, gT_in 87 (by decide +kernel) rfl, by decide +kernel, by decide +kernel⟩
theorem lkX12_alterRow : gLk mX12_alterRow 3 := ⟨gT_in 1583 (by decide +kernel) rfl, gT_in 87 (by decide +kernel) rfl, by decide +kernel, by decide +kernel⟩
theorem lkX12_judge : gLk mX12_judge 0 := ⟨gT_in 1587 (by decide +kernel) rfl, gT_in 87 (by decide +kernel) rfl, by decide +kernel, by decide +kernel⟩
theorem lkX12_lays : gLk mX12_lays 1 := ⟨gT_in 1591 (by decide +kernel) rfl, gT_in 87 (by decide +kernel) rfl, by decide +kernel, by decide +kernel⟩
theorem lkX12_isShelf : gLk mX12_isShelf 1 := ⟨gT_in 1594 (by decide +kernel) rfl, gT_in 87 (by decide +kernel) rfl, by decide +kernel, by decide +kernel⟩
theorem lkX12_sheet : gLk mX12_sheet 3 := ⟨gT_in 1602 (by decide +kernel) rfl, gT_in 87 (by decide +kernel) rfl, by decide +kernel, by decide +kernel⟩
theorem lkX12_write : gLk mX12_write 3 := ⟨gT_in 1606 (by decide +kernel) rfl, gT_in 87 (by decide +kernel) rfl, by decide +kernel, by decide +kernel⟩
theorem lkX12_lacksSort : gLk mX12_lacksSort 2 := ⟨gT_in 1598 (by decide +kernel) rfl, gT_in 87 (by decide +kernel) rfl, by decide +kernel, by decide +kernel⟩
theorem lkX12_item : gLk mX12_item 3 := ⟨gT_in 1610 (by decide +kernel) rfl, gT_in 87 (by decide +kernel) rfl, by decide +kernel, by decide +kernel⟩
theorem lkX12_isHeld : gLk mX12_isHeld 2 := ⟨gT_in 1618 (by decide +kernel) rfl, gT_in 87 (by decide +kernel) rfl, by decide +kernel, by decide +kernel⟩
theorem lkX12_shelf : gLk mX12_shelf 3 := ⟨gT_in 1614 (by decide +kernel) rfl, gT_in 87 (by decide +kernel) rfl, by decide +kernel, by decide +kernel⟩
theorem lkX12_kindOn : gLk mX12_kindOn 1 := ⟨gT_in 1626 (by decide +kernel) rfl, gT_in 87 (by decide +kernel) rfl, by decide +kernel, by decide +kernel⟩
theorem lkX12_isUnder : gLk mX12_isUnder 2 := ⟨gT_in 1629 (by decide +kernel) rfl, gT_in 87 (by decide +kernel) rfl, by decide +kernel, by decide +kernel⟩
theorem lkX12_taken : gLk mX12_taken 2 := ⟨gT_in 1622 (by decide +kernel) rfl, gT_in 87 (by decide +kernel) rfl, by decide +kernel, by decide +kernel⟩
theorem lkX12_ran : gLk mX12_ran 1 := ⟨gT_in 1641 (by decide +kernel) rfl, gT_in 87 (by decide +kernel) rfl, by decide +kernel, by decide +kernel⟩
theorem lkX12_plainLeads : gLk mX12_plainLeads 1 := ⟨gT_in 1645 (by decide +kernel) rfl, gT_in 87 (by decide +kernel) rfl, by decide +kernel, by decide +kernel⟩
theorem lkX12_leadsIt : gLk mX12_leadsIt 1 := ⟨gT_in 1637 (by decide +kernel) rfl, gT_in 87 (by decide +kernel) rfl, by decide +kernel, by decide +kernel⟩
theorem lkX12_plainStays : gLk mX12_plainStays 1 := ⟨gT_in 1657 (by decide +kernel) rfl, gT_in 87 (by decide +kernel) rfl, by decide +kernel, by decide +kernel⟩
theorem lkX12_trackStays : gLk mX12_trackStays 1 := ⟨gT_in 1653 (by decide +kernel) rfl, gT_in 87 (by decide +kernel) rfl, by decide +kernel, by decide +kernel⟩
theorem lkX12_staysIt : gLk mX12_staysIt 1 := ⟨gT_in 1649 (by decide +kernel) rfl, gT_in 87 (by decide +kernel) rfl, by decide +kernel, by decide +kernel⟩
theorem lkX12_plainShares : gLk mX12_plainShares 1 := ⟨gT_in 1665 (by decide +kernel) rfl, gT_in 87 (by decide +kernel) rfl, by decide +kernel, by decide +kernel⟩
theorem lkX12_sharesIt : gLk mX12_sharesIt 1 := ⟨gT_in 1661 (by decide +kernel) rfl, gT_in 87 (by decide +kernel) rfl, by decide +kernel, by decide +kernel⟩
theorem lkX12_plainTells : gLk mX12_plainTells 1 := ⟨gT_in 1673 (by decide +kernel) rfl, gT_in 87 (by decide +kernel) rfl, by decide +kernel, by decide +kernel⟩
theorem lkX12_tellsIt : gLk mX12_tellsIt 1 := ⟨gT_in 1669 (by decide +kernel) rfl, gT_in 87 (by decide +kernel) rfl, by decide +kernel, by decide +kernel⟩
theorem lkX12_act : gLk mX12_act 3 := ⟨gT_in 1633 (by decide +kernel) rfl, gT_in 87 (by decide +kernel) rfl, by decide +kernel, by decide +kernel⟩
theorem lkX12_trace : gLk mX12_trace 1 := ⟨gT_in 1677 (by decide +kernel) rfl, gT_in 87 (by decide +kernel) rfl, by decide +kernel, by decide +kernel⟩
theorem lkX12_many : gLk mX12_many 1 := ⟨gT_in 1681 (by decide +kernel) rfl, gT_in 87 (by decide +kernel) rfl, by decide +kernel, by decide +kernel⟩
theorem lkX12_moveRow : gLk mX12_moveRow 3 := ⟨gT_in 1693 (by decide +kernel) rfl, gT_in 87 (by decide +kernel) rfl, by decide +kernel, by decide +kernel⟩
theorem lkX12_moveAll : gLk mX12_moveAll 1 := ⟨gT_in 1689 (by decide +kernel) rfl, gT_in 87 (by decide +kernel) rfl, by decide +kernel, by decide +kernel⟩
theorem lkX12_keep : gLk mX12_keep 0 := ⟨gT_in 1685 (by decide +kernel) rfl, gT_in 87 (by decide +kernel) rfl, by decide +kernel, by decide +kernel⟩
theorem lkX12_again : gLk mX12_again 0 := ⟨gT_in 1697 (by decide +kernel) rfl, gT_in 87 (by decide +kernel) rfl, by decide +kernel, by decide +kernel⟩
theorem lkJ6_bitCount_0f7a4 : gLk mJ6_bitCount_0f7a4 1 := ⟨gT_in 583 (by decide +kernel) rfl, gT_in 94 (by decide +kernel) rfl, by decide +kernel, by decide +kernel⟩
theorem lkJ9_max_7cf53 : gLk mJ9_max_7cf53 2 := ⟨gT_in 513 (by decide +kernel) rfl, gT_in 93 (by decide +kernel) rfl, by decide +kernel, by decide +kernel⟩
theorem lkJ9_max_f86c9 : gLk mJ9_max_f86c9 2 := ⟨gT_in 749 (by decide +kernel) rfl, gT_in 93 (by decide +kernel) rfl, by decide +kernel, by decide +kernel⟩
theorem lkJ9_min_7cf53 : gLk mJ9_min_7cf53 2 := ⟨gT_in 510 (by decide +kernel) rfl, gT_in 93 (by decide +kernel) rfl, by decide +kernel, by decide +kernel⟩
theorem lkJ9_min_f86c9 : gLk mJ9_min_f86c9 2 := ⟨gT_in 830 (by decide +kernel) rfl, gT_in 93 (by decide +kernel) rfl, by decide +kernel, by decide +kernel⟩
theorem lkJ0_length_8abf5 : gLk mJ0_length_8abf5 0 := ⟨gT_in 372 (by decide +kernel) rfl, gT_in 89 (by decide +kernel) rfl, by decide +kernel, by decide +kernel⟩
theorem lkJ0_charAt_5068e : gLk mJ0_charAt_5068e 1 := ⟨gT_in 382 (by decide +kernel) rfl, gT_in 89 (by decide +kernel) rfl, by decide +kernel, by decide +kernel⟩
theorem lkJ0_coder_7d493 : gLk mJ0_coder_7d493 0 := ⟨gT_in 376 (by decide +kernel) rfl, gT_in 89 (by decide +kernel) rfl, by decide +kernel, by decide +kernel⟩
theorem lkJ0_isLatin1_aae02 : gLk mJ0_isLatin1_aae02 0 := ⟨gT_in 386 (by decide +kernel) rfl, gT_in 89 (by decide +kernel) rfl, by decide +kernel, by decide +kernel⟩
theorem lkJ0_checkIndex_df160 : gLk mJ0_checkIndex_df160 2 := ⟨gT_in 392 (by decide +kernel) rfl, gT_in 89 (by decide +kernel) rfl, by decide +kernel, by decide +kernel⟩
theorem lkJ1_charAt_3b067 : gLk mJ1_charAt_3b067 2 := ⟨gT_in 389 (by decide +kernel) rfl, gT_in 90 (by decide +kernel) rfl, by decide +kernel, by decide +kernel⟩
theorem lkJ2_getChar_3b067 : gLk mJ2_getChar_3b067 2 := ⟨gT_in 410 (by decide +kernel) rfl, gT_in 92 (by decide +kernel) rfl, by decide +kernel, by decide +kernel⟩
theorem lkJ2_length_9d52b : gLk mJ2_length_9d52b 1 := ⟨gT_in 406 (by decide +kernel) rfl, gT_in 92 (by decide +kernel) rfl, by decide +kernel, by decide +kernel⟩
theorem lkJ2_charAt_3b067 : gLk mJ2_charAt_3b067 2 := ⟨gT_in 400 (by decide +kernel) rfl, gT_in 92 (by decide +kernel) rfl, by decide +kernel, by decide +kernel⟩
theorem lkJ2_checkIndex_2214a : gLk mJ2_checkIndex_2214a 2 := ⟨gT_in 403 (by decide +kernel) rfl, gT_in 92 (by decide +kernel) rfl, by decide +kernel, by decide +kernel⟩
theorem lkJ7_fill_53178 : gLk mJ7_fill_53178 2 := ⟨gT_in 118 (by decide +kernel) rfl, gT_in 83 (by decide +kernel) rfl, by decide +kernel, by decide +kernel⟩
theorem lkJ3_checkIndex_8e157 : gLk mJ3_checkIndex_8e157 3 := ⟨gT_in 397 (by decide +kernel) rfl, gT_in 91 (by decide +kernel) rfl, by decide +kernel, by decide +kernel⟩
theorem iX0 : ∀ w ∈ u_ws RX0 TX0 3, w ∈ gT := gin_of _ [950, 951, 952] (by decide +kernel) (by decide +kernel)
theorem iX1 : ∀ w ∈ u_ws RX1 TX1 5, w ∈ gT := gin_of _ [243, 245, 247, 249, 251] (by decide +kernel) (by decide +kernel)
theorem iX2 : ∀ w ∈ u_ws RX2 TX2 3, w ∈ gT := gin_of _ [940, 941, 942] (by decide +kernel) (by decide +kernel)
theorem iX3 : ∀ w ∈ u_ws RX3 TX3 3, w ∈ gT := gin_of _ [967, 968, 969] (by decide +kernel) (by decide +kernel)
theorem iX4 : ∀ w ∈ u_ws RX4 TX4 3, w ∈ gT := gin_of _ [960, 961, 962] (by decide +kernel) (by decide +kernel)
theorem iX5 : ∀ w ∈ u_ws RX5 TX5 2, w ∈ gT := gin_of _ [845, 847] (by decide +kernel) (by decide +kernel)
theorem iX6 : ∀ w ∈ u_ws RX6 TX6 7, w ∈ gT := gin_of _ [215, 217, 219, 221, 223, 225, 227] (by decide +kernel) (by decide +kernel)
theorem iX7 : ∀ w ∈ u_ws RX7 TX7 3, w ∈ gT := gin_of _ [270, 272, 274] (by decide +kernel) (by decide +kernel)
theorem iX8 : ∀ w ∈ u_ws RX8 TX8 3, w ∈ gT := gin_of _ [917, 919, 921] (by decide +kernel) (by decide +kernel)
theorem iX9 : ∀ w ∈ u_ws RX9 TX9 3, w ∈ gT := gin_of _ [930, 931, 932] (by decide +kernel) (by decide +kernel)
theorem iX10 : ∀ w ∈ u_ws RX10 TX10 18, w ∈ gT := gin_of _ [163, 165, 167, 169, 171, 173, 175, 177, 179, 181, 183, 185, 187, 189, 191, 193, 195, 197] (by decide +kernel) (by decide +kernel)
theorem iX11 : ∀ w ∈ u_ws RX11 TX11 13, w ∈ gT := gin_of _ [291, 293, 295, 297, 299, 301, 303, 305, 307, 309, 311, 313, 315] (by decide +kernel) (by decide +kernel)
theorem iX12 : ∀ w ∈ u_ws RX12 TX12 55, w ∈ gT := gin_of _ [1137, 1139, 1141, 1143, 1145, 1147, 1149, 1151, 1153, 1155, 1157, 1159, 1161, 1163, 1165, 1167, 1169, 1171, 1173, 1175, 1177, 1179, 1181, 1183, 1185, 1187, 1189, 1191, 1193, 1195, 1197, 1199, 1201, 1203, 1205, 1207, 1209, 1211, 1213, 1215, 1217, 1219, 1221, 1223, 1225, 1227, 1229, 1231, 1233, 1235, 1237, 1239, 1241, 1243, 1245] (by decide +kernel) (by decide +kernel)
theorem nL_7 : gNw RL 7 11 13 := ⟨RX11, TX11, tyX11, rfl, iX11, tyX11_ok, gT_in 102 (by decide +kernel) rfl, gT_in 103 (by decide +kernel) rfl, gT_in 81 (by decide +kernel) rfl⟩
theorem sL_9 : mX11_init.1.name = "<init>" ∧ Cond.methodLink RL 9 mX11_init.1 ∈ gT ∧ Cond.instanceMethod mX11_init.1 ∈ gT := ⟨rfl, gT_in 104 (by decide +kernel) rfl, gT_in 105 (by decide +kernel) rfl⟩
theorem nX11_9 : gNw RX11 9 10 18 := ⟨RX10, TX10, tyX10, rfl, iX10, tyX10_ok, gT_in 110 (by decide +kernel) rfl, gT_in 111 (by decide +kernel) rfl, gT_in 82 (by decide +kernel) rfl⟩
theorem sX11_11 : mX10_init.1.name = "<init>" ∧ Cond.methodLink RX11 11 mX10_init.1 ∈ gT ∧ Cond.instanceMethod mX10_init.1 ∈ gT := ⟨rfl, gT_in 112 (by decide +kernel) rfl, gT_in 113 (by decide +kernel) rfl⟩
theorem sX10_49 : Cond.methodLink RX10 49 mJ7_fill_53178.1 ∈ gT ∧ Cond.static mJ7_fill_53178.1 ∈ gT := ⟨gT_in 116 (by decide +kernel) rfl, gT_in 117 (by decide +kernel) rfl⟩
theorem fX10_9 : gFd RX10 9 10 0 true (.array .int) := ⟨RX10, TX10, 18, "HeldPaths$Wood", tyX10, rfl, by decide, iX10, gT_in 119 (by decide +kernel) rfl, Or.inl rfl, tyX10_ok, nmX10, rfl, tyX10_ok 0 (by decide), fun _ => rfl⟩
theorem fX11_108 : gFdR RX11 108 10 0 (.array .int) := ⟨RX10, TX10, 18, "HeldPaths$Wood", rfl, by decide, iX10, gT_in 120 (by decide +kernel) rfl, Or.inl rfl⟩
theorem fX10_15 : gFd RX10 15 10 1 true (.array .int) := ⟨RX10, TX10, 18, "HeldPaths$Wood", tyX10, rfl, by decide, iX10, gT_in 121 (by decide +kernel) rfl, Or.inl rfl, tyX10_ok, nmX10, rfl, tyX10_ok 1 (by decide), fun _ => rfl⟩
theorem fX1_36 : gFdR RX1 36 10 1 (.array .int) := ⟨RX10, TX10, 18, "HeldPaths$Wood", rfl, by decide, iX10, gT_in 122 (by decide +kernel) rfl, Or.inl rfl⟩
theorem fX11_111 : gFdR RX11 111 10 1 (.array .int) := ⟨RX10, TX10, 18, "HeldPaths$Wood", rfl, by decide, iX10, gT_in 123 (by decide +kernel) rfl, Or.inl rfl⟩
theorem fX10_18 : gFd RX10 18 10 2 true (.array .int) := ⟨RX10, TX10, 18, "HeldPaths$Wood", tyX10, rfl, by decide, iX10, gT_in 124 (by decide +kernel) rfl, Or.inl rfl, tyX10_ok, nmX10, rfl, tyX10_ok 2 (by decide), fun _ => rfl⟩
theorem fX1_40 : gFdR RX1 40 10 2 (.array .int) := ⟨RX10, TX10, 18, "HeldPaths$Wood", rfl, by decide, iX10, gT_in 125 (by decide +kernel) rfl, Or.inl rfl⟩
theorem fX11_114 : gFdR RX11 114 10 2 (.array .int) := ⟨RX10, TX10, 18, "HeldPaths$Wood", rfl, by decide, iX10, gT_in 126 (by decide +kernel) rfl, Or.inl rfl⟩
theorem fX10_21 : gFd RX10 21 10 3 true (.array .int) := ⟨RX10, TX10, 18, "HeldPaths$Wood", tyX10, rfl, by decide, iX10, gT_in 127 (by decide +kernel) rfl, Or.inl rfl, tyX10_ok, nmX10, rfl, tyX10_ok 3 (by decide), fun _ => rfl⟩
theorem fX11_117 : gFdR RX11 117 10 3 (.array .int) := ⟨RX10, TX10, 18, "HeldPaths$Wood", rfl, by decide, iX10, gT_in 128 (by decide +kernel) rfl, Or.inl rfl⟩
theorem fX10_24 : gFd RX10 24 10 4 true (.array .int) := ⟨RX10, TX10, 18, "HeldPaths$Wood", tyX10, rfl, by decide, iX10, gT_in 129 (by decide +kernel) rfl, Or.inl rfl, tyX10_ok, nmX10, rfl, tyX10_ok 4 (by decide), fun _ => rfl⟩
theorem fX11_120 : gFdR RX11 120 10 4 (.array .int) := ⟨RX10, TX10, 18, "HeldPaths$Wood", rfl, by decide, iX10, gT_in 130 (by decide +kernel) rfl, Or.inl rfl⟩
theorem fX1_21 : gFd RX1 21 10 5 false .int := ⟨RX10, TX10, 18, "HeldPaths$Wood", tyX10, rfl, by decide, iX10, gT_in 131 (by decide +kernel) rfl, Or.inl rfl, tyX10_ok, nmX10, rfl, tyX10_ok 5 (by decide), fun h => by cases h⟩
theorem fX10_61 : gFd RX10 61 10 5 false .int := ⟨RX10, TX10, 18, "HeldPaths$Wood", tyX10, rfl, by decide, iX10, gT_in 132 (by decide +kernel) rfl, Or.inl rfl, tyX10_ok, nmX10, rfl, tyX10_ok 5 (by decide), fun h => by cases h⟩
theorem fX11_87 : gFd RX11 87 10 5 false .int := ⟨RX10, TX10, 18, "HeldPaths$Wood", tyX10, rfl, by decide, iX10, gT_in 133 (by decide +kernel) rfl, Or.inl rfl, tyX10_ok, nmX10, rfl, tyX10_ok 5 (by decide), fun h => by cases h⟩
theorem fX6_39 : gFd RX6 39 10 5 false .int := ⟨RX10, TX10, 18, "HeldPaths$Wood", tyX10, rfl, by decide, iX10, gT_in 134 (by decide +kernel) rfl, Or.inl rfl, tyX10_ok, nmX10, rfl, tyX10_ok 5 (by decide), fun h => by cases h⟩
theorem fX10_64 : gFd RX10 64 10 6 false .int := ⟨RX10, TX10, 18, "HeldPaths$Wood", tyX10, rfl, by decide, iX10, gT_in 135 (by decide +kernel) rfl, Or.inl rfl, tyX10_ok, nmX10, rfl, tyX10_ok 6 (by decide), fun h => by cases h⟩
theorem fX1_79 : gFd RX1 79 10 6 false .int := ⟨RX10, TX10, 18, "HeldPaths$Wood", tyX10, rfl, by decide, iX10, gT_in 136 (by decide +kernel) rfl, Or.inl rfl, tyX10_ok, nmX10, rfl, tyX10_ok 6 (by decide), fun h => by cases h⟩
theorem fX11_190 : gFd RX11 190 10 6 false .int := ⟨RX10, TX10, 18, "HeldPaths$Wood", tyX10, rfl, by decide, iX10, gT_in 137 (by decide +kernel) rfl, Or.inl rfl, tyX10_ok, nmX10, rfl, tyX10_ok 6 (by decide), fun h => by cases h⟩
theorem fX10_27 : gFd RX10 27 10 7 true (.array .int) := ⟨RX10, TX10, 18, "HeldPaths$Wood", tyX10, rfl, by decide, iX10, gT_in 138 (by decide +kernel) rfl, Or.inl rfl, tyX10_ok, nmX10, rfl, tyX10_ok 7 (by decide), fun _ => rfl⟩
theorem fX11_157 : gFdR RX11 157 10 7 (.array .int) := ⟨RX10, TX10, 18, "HeldPaths$Wood", rfl, by decide, iX10, gT_in 139 (by decide +kernel) rfl, Or.inl rfl⟩
theorem fX10_30 : gFd RX10 30 10 8 true (.array .int) := ⟨RX10, TX10, 18, "HeldPaths$Wood", tyX10, rfl, by decide, iX10, gT_in 140 (by decide +kernel) rfl, Or.inl rfl, tyX10_ok, nmX10, rfl, tyX10_ok 8 (by decide), fun _ => rfl⟩
theorem fX11_160 : gFdR RX11 160 10 8 (.array .int) := ⟨RX10, TX10, 18, "HeldPaths$Wood", rfl, by decide, iX10, gT_in 141 (by decide +kernel) rfl, Or.inl rfl⟩
theorem fX10_33 : gFd RX10 33 10 9 true (.array .int) := ⟨RX10, TX10, 18, "HeldPaths$Wood", tyX10, rfl, by decide, iX10, gT_in 142 (by decide +kernel) rfl, Or.inl rfl, tyX10_ok, nmX10, rfl, tyX10_ok 9 (by decide), fun _ => rfl⟩
theorem fX11_163 : gFdR RX11 163 10 9 (.array .int) := ⟨RX10, TX10, 18, "HeldPaths$Wood", rfl, by decide, iX10, gT_in 143 (by decide +kernel) rfl, Or.inl rfl⟩
theorem fX10_67 : gFd RX10 67 10 10 false .int := ⟨RX10, TX10, 18, "HeldPaths$Wood", tyX10, rfl, by decide, iX10, gT_in 144 (by decide +kernel) rfl, Or.inl rfl, tyX10_ok, nmX10, rfl, tyX10_ok 10 (by decide), fun h => by cases h⟩
theorem fX6_54 : gFd RX6 54 10 10 false .int := ⟨RX10, TX10, 18, "HeldPaths$Wood", tyX10, rfl, by decide, iX10, gT_in 145 (by decide +kernel) rfl, Or.inl rfl, tyX10_ok, nmX10, rfl, tyX10_ok 10 (by decide), fun h => by cases h⟩
theorem fX11_147 : gFd RX11 147 10 10 false .int := ⟨RX10, TX10, 18, "HeldPaths$Wood", tyX10, rfl, by decide, iX10, gT_in 146 (by decide +kernel) rfl, Or.inl rfl, tyX10_ok, nmX10, rfl, tyX10_ok 10 (by decide), fun h => by cases h⟩
theorem fX10_36 : gFd RX10 36 10 11 true (.array .int) := ⟨RX10, TX10, 18, "HeldPaths$Wood", tyX10, rfl, by decide, iX10, gT_in 147 (by decide +kernel) rfl, Or.inl rfl, tyX10_ok, nmX10, rfl, tyX10_ok 11 (by decide), fun _ => rfl⟩
theorem fX11_144 : gFdR RX11 144 10 11 (.array .int) := ⟨RX10, TX10, 18, "HeldPaths$Wood", rfl, by decide, iX10, gT_in 148 (by decide +kernel) rfl, Or.inl rfl⟩
theorem fX6_119 : gFdR RX6 119 10 11 (.array .int) := ⟨RX10, TX10, 18, "HeldPaths$Wood", rfl, by decide, iX10, gT_in 149 (by decide +kernel) rfl, Or.inl rfl⟩
theorem fX10_70 : gFd RX10 70 10 12 false .boolean := ⟨RX10, TX10, 18, "HeldPaths$Wood", tyX10, rfl, by decide, iX10, gT_in 150 (by decide +kernel) rfl, Or.inl rfl, tyX10_ok, nmX10, rfl, tyX10_ok 12 (by decide), fun h => by cases h⟩
theorem fX6_65 : gFd RX6 65 10 12 false .boolean := ⟨RX10, TX10, 18, "HeldPaths$Wood", tyX10, rfl, by decide, iX10, gT_in 151 (by decide +kernel) rfl, Or.inl rfl, tyX10_ok, nmX10, rfl, tyX10_ok 12 (by decide), fun h => by cases h⟩
theorem fX11_140 : gFd RX11 140 10 12 false .boolean := ⟨RX10, TX10, 18, "HeldPaths$Wood", tyX10, rfl, by decide, iX10, gT_in 152 (by decide +kernel) rfl, Or.inl rfl, tyX10_ok, nmX10, rfl, tyX10_ok 12 (by decide), fun h => by cases h⟩
theorem fX10_74 : gFd RX10 74 10 13 false .int := ⟨RX10, TX10, 18, "HeldPaths$Wood", tyX10, rfl, by decide, iX10, gT_in 153 (by decide +kernel) rfl, Or.inl rfl, tyX10_ok, nmX10, rfl, tyX10_ok 13 (by decide), fun h => by cases h⟩
theorem fX11_193 : gFd RX11 193 10 13 false .int := ⟨RX10, TX10, 18, "HeldPaths$Wood", tyX10, rfl, by decide, iX10, gT_in 154 (by decide +kernel) rfl, Or.inl rfl, tyX10_ok, nmX10, rfl, tyX10_ok 13 (by decide), fun h => by cases h⟩
theorem fX10_39 : gFd RX10 39 10 14 false .int := ⟨RX10, TX10, 18, "HeldPaths$Wood", tyX10, rfl, by decide, iX10, gT_in 155 (by decide +kernel) rfl, Or.inl rfl, tyX10_ok, nmX10, rfl, tyX10_ok 14 (by decide), fun h => by cases h⟩
theorem fX11_204 : gFd RX11 204 10 14 false .int := ⟨RX10, TX10, 18, "HeldPaths$Wood", tyX10, rfl, by decide, iX10, gT_in 156 (by decide +kernel) rfl, Or.inl rfl, tyX10_ok, nmX10, rfl, tyX10_ok 14 (by decide), fun h => by cases h⟩
theorem fX10_43 : gFd RX10 43 10 15 true (.array .int) := ⟨RX10, TX10, 18, "HeldPaths$Wood", tyX10, rfl, by decide, iX10, gT_in 157 (by decide +kernel) rfl, Or.inl rfl, tyX10_ok, nmX10, rfl, tyX10_ok 15 (by decide), fun _ => rfl⟩
theorem fX11_261 : gFdR RX11 261 10 15 (.array .int) := ⟨RX10, TX10, 18, "HeldPaths$Wood", rfl, by decide, iX10, gT_in 158 (by decide +kernel) rfl, Or.inl rfl⟩
theorem fX10_46 : gFd RX10 46 10 16 true (.array .int) := ⟨RX10, TX10, 18, "HeldPaths$Wood", tyX10, rfl, by decide, iX10, gT_in 159 (by decide +kernel) rfl, Or.inl rfl, tyX10_ok, nmX10, rfl, tyX10_ok 16 (by decide), fun _ => rfl⟩
theorem fX11_264 : gFdR RX11 264 10 16 (.array .int) := ⟨RX10, TX10, 18, "HeldPaths$Wood", rfl, by decide, iX10, gT_in 160 (by decide +kernel) rfl, Or.inl rfl⟩
theorem fX10_77 : gFd RX10 77 10 17 false .int := ⟨RX10, TX10, 18, "HeldPaths$Wood", tyX10, rfl, by decide, iX10, gT_in 161 (by decide +kernel) rfl, Or.inl rfl, tyX10_ok, nmX10, rfl, tyX10_ok 17 (by decide), fun h => by cases h⟩
theorem fX11_252 : gFd RX11 252 10 17 false .int := ⟨RX10, TX10, 18, "HeldPaths$Wood", tyX10, rfl, by decide, iX10, gT_in 162 (by decide +kernel) rfl, Or.inl rfl, tyX10_ok, nmX10, rfl, tyX10_ok 17 (by decide), fun h => by cases h⟩
theorem nX11_22 : gNw RX11 22 6 7 := ⟨RX6, TX6, tyX6, rfl, iX6, tyX6_ok, gT_in 201 (by decide +kernel) rfl, gT_in 202 (by decide +kernel) rfl, gT_in 84 (by decide +kernel) rfl⟩
theorem fX6_9 : gFd RX6 9 6 0 true (.array .byte) := ⟨RX6, TX6, 7, "HeldPaths$Tape", tyX6, rfl, by decide, iX6, gT_in 207 (by decide +kernel) rfl, Or.inl rfl, tyX6_ok, nmX6, rfl, tyX6_ok 0 (by decide), fun _ => rfl⟩
theorem fX6_15 : gFd RX6 15 6 1 false .int := ⟨RX6, TX6, 7, "HeldPaths$Tape", tyX6, rfl, by decide, iX6, gT_in 208 (by decide +kernel) rfl, Or.inl rfl, tyX6_ok, nmX6, rfl, tyX6_ok 1 (by decide), fun h => by cases h⟩
theorem fX11_330 : gFd RX11 330 6 1 false .int := ⟨RX6, TX6, 7, "HeldPaths$Tape", tyX6, rfl, by decide, iX6, gT_in 209 (by decide +kernel) rfl, Or.inl rfl, tyX6_ok, nmX6, rfl, tyX6_ok 1 (by decide), fun h => by cases h⟩
theorem fX6_28 : gFd RX6 28 6 2 false .int := ⟨RX6, TX6, 7, "HeldPaths$Tape", tyX6, rfl, by decide, iX6, gT_in 210 (by decide +kernel) rfl, Or.inl rfl, tyX6_ok, nmX6, rfl, tyX6_ok 2 (by decide), fun h => by cases h⟩
theorem fX6_74 : gFd RX6 74 6 3 false .int := ⟨RX6, TX6, 7, "HeldPaths$Tape", tyX6, rfl, by decide, iX6, gT_in 211 (by decide +kernel) rfl, Or.inl rfl, tyX6_ok, nmX6, rfl, tyX6_ok 3 (by decide), fun h => by cases h⟩
theorem fX6_19 : gFd RX6 19 6 4 false .int := ⟨RX6, TX6, 7, "HeldPaths$Tape", tyX6, rfl, by decide, iX6, gT_in 212 (by decide +kernel) rfl, Or.inl rfl, tyX6_ok, nmX6, rfl, tyX6_ok 4 (by decide), fun h => by cases h⟩
theorem fX6_122 : gFd RX6 122 6 5 false .int := ⟨RX6, TX6, 7, "HeldPaths$Tape", tyX6, rfl, by decide, iX6, gT_in 213 (by decide +kernel) rfl, Or.inl rfl, tyX6_ok, nmX6, rfl, tyX6_ok 5 (by decide), fun h => by cases h⟩
theorem fX6_22 : gFd RX6 22 6 6 false .int := ⟨RX6, TX6, 7, "HeldPaths$Tape", tyX6, rfl, by decide, iX6, gT_in 214 (by decide +kernel) rfl, Or.inl rfl, tyX6_ok, nmX6, rfl, tyX6_ok 6 (by decide), fun h => by cases h⟩
theorem nX11_29 : gNw RX11 29 1 5 := ⟨RX1, TX1, tyX1, rfl, iX1, tyX1_ok, gT_in 231 (by decide +kernel) rfl, gT_in 232 (by decide +kernel) rfl, gT_in 85 (by decide +kernel) rfl⟩
theorem fX1_9 : gFd RX1 9 1 0 true (.array .long) := ⟨RX1, TX1, 5, "HeldPaths$Chances", tyX1, rfl, by decide, iX1, gT_in 237 (by decide +kernel) rfl, Or.inl rfl, tyX1_ok, nmX1, rfl, tyX1_ok 0 (by decide), fun _ => rfl⟩
theorem fX1_15 : gFd RX1 15 1 1 true (.array .long) := ⟨RX1, TX1, 5, "HeldPaths$Chances", tyX1, rfl, by decide, iX1, gT_in 238 (by decide +kernel) rfl, Or.inl rfl, tyX1_ok, nmX1, rfl, tyX1_ok 1 (by decide), fun _ => rfl⟩
theorem fX1_18 : gFd RX1 18 1 2 true (.array .long) := ⟨RX1, TX1, 5, "HeldPaths$Chances", tyX1, rfl, by decide, iX1, gT_in 239 (by decide +kernel) rfl, Or.inl rfl, tyX1_ok, nmX1, rfl, tyX1_ok 2 (by decide), fun _ => rfl⟩
theorem fX1_27 : gFd RX1 27 1 3 false .int := ⟨RX1, TX1, 5, "HeldPaths$Chances", tyX1, rfl, by decide, iX1, gT_in 240 (by decide +kernel) rfl, Or.inl rfl, tyX1_ok, nmX1, rfl, tyX1_ok 3 (by decide), fun h => by cases h⟩
theorem fX1_30 : gFd RX1 30 1 4 false .long := ⟨RX1, TX1, 5, "HeldPaths$Chances", tyX1, rfl, by decide, iX1, gT_in 241 (by decide +kernel) rfl, Or.inl rfl, tyX1_ok, nmX1, rfl, tyX1_ok 4 (by decide), fun h => by cases h⟩
theorem fX11_225 : gFd RX11 225 1 4 false .long := ⟨RX1, TX1, 5, "HeldPaths$Chances", tyX1, rfl, by decide, iX1, gT_in 242 (by decide +kernel) rfl, Or.inl rfl, tyX1_ok, nmX1, rfl, tyX1_ok 4 (by decide), fun h => by cases h⟩
theorem nX11_43 : gNw RX11 43 5 2 := ⟨RX5, TX5, tyX5, rfl, iX5, tyX5_ok, gT_in 255 (by decide +kernel) rfl, gT_in 836 (by decide +kernel) rfl, gT_in 95 (by decide +kernel) rfl⟩
theorem nX11_55 : gNw RX11 55 7 3 := ⟨RX7, TX7, tyX7, rfl, iX7, tyX7_ok, gT_in 257 (by decide +kernel) rfl, gT_in 258 (by decide +kernel) rfl, gT_in 86 (by decide +kernel) rfl⟩
theorem fX7_9 : gFd RX7 9 7 0 true (.array .int) := ⟨RX7, TX7, 3, "HeldPaths$Trace", tyX7, rfl, by decide, iX7, gT_in 263 (by decide +kernel) rfl, Or.inl rfl, tyX7_ok, nmX7, rfl, tyX7_ok 0 (by decide), fun _ => rfl⟩
theorem fX11_327 : gFdR RX11 327 7 0 (.array .int) := ⟨RX7, TX7, 3, "HeldPaths$Trace", rfl, by decide, iX7, gT_in 264 (by decide +kernel) rfl, Or.inl rfl⟩
theorem fX7_15 : gFd RX7 15 7 1 false .int := ⟨RX7, TX7, 3, "HeldPaths$Trace", tyX7, rfl, by decide, iX7, gT_in 265 (by decide +kernel) rfl, Or.inl rfl, tyX7_ok, nmX7, rfl, tyX7_ok 1 (by decide), fun h => by cases h⟩
theorem fX11_324 : gFd RX11 324 7 1 false .int := ⟨RX7, TX7, 3, "HeldPaths$Trace", tyX7, rfl, by decide, iX7, gT_in 266 (by decide +kernel) rfl, Or.inl rfl, tyX7_ok, nmX7, rfl, tyX7_ok 1 (by decide), fun h => by cases h⟩
theorem fX7_19 : gFd RX7 19 7 2 false .boolean := ⟨RX7, TX7, 3, "HeldPaths$Trace", tyX7, rfl, by decide, iX7, gT_in 267 (by decide +kernel) rfl, Or.inl rfl, tyX7_ok, nmX7, rfl, tyX7_ok 2 (by decide), fun h => by cases h⟩
theorem fX3_30 : gFd RX3 30 7 2 false .boolean := ⟨RX7, TX7, 3, "HeldPaths$Trace", tyX7, rfl, by decide, iX7, gT_in 268 (by decide +kernel) rfl, Or.inl rfl, tyX7_ok, nmX7, rfl, tyX7_ok 2 (by decide), fun h => by cases h⟩
theorem fX11_321 : gFd RX11 321 7 2 false .boolean := ⟨RX7, TX7, 3, "HeldPaths$Trace", tyX7, rfl, by decide, iX7, gT_in 269 (by decide +kernel) rfl, Or.inl rfl, tyX7_ok, nmX7, rfl, tyX7_ok 2 (by decide), fun h => by cases h⟩
theorem sX11_62 : Cond.methodLink RX11 62 mJ7_fill_53178.1 ∈ gT ∧ Cond.static mJ7_fill_53178.1 ∈ gT := ⟨gT_in 277 (by decide +kernel) rfl, gT_in 117 (by decide +kernel) rfl⟩
theorem fX11_12 : gFd RX11 12 11 0 true (.object "HeldPaths$Wood") := ⟨RX11, TX11, 13, "HeldPaths", tyX11, rfl, by decide, iX11, gT_in 278 (by decide +kernel) rfl, Or.inl rfl, tyX11_ok, nmX11, rfl, tyX11_ok 0 (by decide), fun _ => rfl⟩
theorem fX11_16 : gFd RX11 16 11 1 true (.object "HeldPaths$Wood") := ⟨RX11, TX11, 13, "HeldPaths", tyX11, rfl, by decide, iX11, gT_in 279 (by decide +kernel) rfl, Or.inl rfl, tyX11_ok, nmX11, rfl, tyX11_ok 1 (by decide), fun _ => rfl⟩
theorem fX11_19 : gFd RX11 19 11 2 true (.object "HeldPaths$Wood") := ⟨RX11, TX11, 13, "HeldPaths", tyX11, rfl, by decide, iX11, gT_in 280 (by decide +kernel) rfl, Or.inl rfl, tyX11_ok, nmX11, rfl, tyX11_ok 2 (by decide), fun _ => rfl⟩
theorem fX11_331 : gFd RX11 331 11 3 false .boolean := ⟨RX11, TX11, 13, "HeldPaths", tyX11, rfl, by decide, iX11, gT_in 281 (by decide +kernel) rfl, Or.inl rfl, tyX11_ok, nmX11, rfl, tyX11_ok 3 (by decide), fun h => by cases h⟩
theorem fX11_25 : gFd RX11 25 11 4 true (.object "HeldPaths$Tape") := ⟨RX11, TX11, 13, "HeldPaths", tyX11, rfl, by decide, iX11, gT_in 282 (by decide +kernel) rfl, Or.inl rfl, tyX11_ok, nmX11, rfl, tyX11_ok 4 (by decide), fun _ => rfl⟩
theorem fX11_32 : gFd RX11 32 11 5 true (.object "HeldPaths$Chances") := ⟨RX11, TX11, 13, "HeldPaths", tyX11, rfl, by decide, iX11, gT_in 283 (by decide +kernel) rfl, Or.inl rfl, tyX11_ok, nmX11, rfl, tyX11_ok 5 (by decide), fun _ => rfl⟩
theorem fX11_36 : gFd RX11 36 11 6 true (.array .int) := ⟨RX11, TX11, 13, "HeldPaths", tyX11, rfl, by decide, iX11, gT_in 284 (by decide +kernel) rfl, Or.inl rfl, tyX11_ok, nmX11, rfl, tyX11_ok 6 (by decide), fun _ => rfl⟩
theorem fX11_40 : gFd RX11 40 11 7 true (.array .int) := ⟨RX11, TX11, 13, "HeldPaths", tyX11, rfl, by decide, iX11, gT_in 285 (by decide +kernel) rfl, Or.inl rfl, tyX11_ok, nmX11, rfl, tyX11_ok 7 (by decide), fun _ => rfl⟩
theorem fX11_83 : gFd RX11 83 11 8 false .int := ⟨RX11, TX11, 13, "HeldPaths", tyX11, rfl, by decide, iX11, gT_in 286 (by decide +kernel) rfl, Or.inl rfl, tyX11_ok, nmX11, rfl, tyX11_ok 8 (by decide), fun h => by cases h⟩
theorem fX11_45 : gFd RX11 45 11 9 true (.array (.object "HeldPaths$Strip")) := ⟨RX11, TX11, 13, "HeldPaths", tyX11, rfl, by decide, iX11, gT_in 287 (by decide +kernel) rfl, Or.inl rfl, tyX11_ok, nmX11, rfl, tyX11_ok 9 (by decide), fun _ => rfl⟩
theorem fX11_49 : gFd RX11 49 11 10 true (.array .int) := ⟨RX11, TX11, 13, "HeldPaths", tyX11, rfl, by decide, iX11, gT_in 288 (by decide +kernel) rfl, Or.inl rfl, tyX11_ok, nmX11, rfl, tyX11_ok 10 (by decide), fun _ => rfl⟩
theorem fX11_52 : gFd RX11 52 11 11 true (.array (.object "HeldPaths$Strip")) := ⟨RX11, TX11, 13, "HeldPaths", tyX11, rfl, by decide, iX11, gT_in 289 (by decide +kernel) rfl, Or.inl rfl, tyX11_ok, nmX11, rfl, tyX11_ok 11 (by decide), fun _ => rfl⟩
theorem fX11_58 : gFd RX11 58 11 12 true (.object "HeldPaths$Trace") := ⟨RX11, TX11, 13, "HeldPaths", tyX11, rfl, by decide, iX11, gT_in 290 (by decide +kernel) rfl, Or.inl rfl, tyX11_ok, nmX11, rfl, tyX11_ok 12 (by decide), fun _ => rfl⟩
theorem sL_15 : vwCl[11]? = some (mX11_feed.1.cls, TX11, 13) ∧ Cond.methodLink RL 15 mX11_feed.1 ∈ gT ∧ Cond.instanceMethod mX11_feed.1 ∈ gT ∧ Cond.selects mX11_feed.1.cls mX11_feed.1 mX11_feed.1 ∈ gT := ⟨rfl, gT_in 318 (by decide +kernel) rfl, gT_in 319 (by decide +kernel) rfl, gT_in 320 (by decide +kernel) rfl⟩
theorem sX11_68 : vwCl[6]? = some (mX6_take.1.cls, TX6, 7) ∧ Cond.methodLink RX11 68 mX6_take.1 ∈ gT ∧ Cond.instanceMethod mX6_take.1 ∈ gT ∧ Cond.selects mX6_take.1.cls mX6_take.1 mX6_take.1 ∈ gT := ⟨rfl, gT_in 322 (by decide +kernel) rfl, gT_in 323 (by decide +kernel) rfl, gT_in 324 (by decide +kernel) rfl⟩
theorem sL_20 : vwCl[11]? = some (mX11_wood.1.cls, TX11, 13) ∧ Cond.methodLink RL 20 mX11_wood.1 ∈ gT ∧ Cond.instanceMethod mX11_wood.1 ∈ gT ∧ Cond.selects mX11_wood.1.cls mX11_wood.1 mX11_wood.1 ∈ gT := ⟨rfl, gT_in 326 (by decide +kernel) rfl, gT_in 327 (by decide +kernel) rfl, gT_in 328 (by decide +kernel) rfl⟩
theorem sX11_72 : vwCl[10]? = some (mX10_copyFrom.1.cls, TX10, 18) ∧ Cond.methodLink RX11 72 mX10_copyFrom.1 ∈ gT ∧ Cond.instanceMethod mX10_copyFrom.1 ∈ gT ∧ Cond.selects mX10_copyFrom.1.cls mX10_copyFrom.1 mX10_copyFrom.1 ∈ gT := ⟨rfl, gT_in 330 (by decide +kernel) rfl, gT_in 331 (by decide +kernel) rfl, gT_in 332 (by decide +kernel) rfl⟩
theorem sX11_76 : vwCl[10]? = some (mX10_clear.1.cls, TX10, 18) ∧ Cond.methodLink RX11 76 mX10_clear.1 ∈ gT ∧ Cond.instanceMethod mX10_clear.1 ∈ gT ∧ Cond.selects mX10_clear.1.cls mX10_clear.1 mX10_clear.1 ∈ gT := ⟨rfl, gT_in 337 (by decide +kernel) rfl, gT_in 338 (by decide +kernel) rfl, gT_in 339 (by decide +kernel) rfl⟩
theorem sX11_79 : vwCl[6]? = some (mX6_tellTo.1.cls, TX6, 7) ∧ Cond.methodLink RX11 79 mX6_tellTo.1 ∈ gT ∧ Cond.instanceMethod mX6_tellTo.1 ∈ gT ∧ Cond.selects mX6_tellTo.1.cls mX6_tellTo.1 mX6_tellTo.1 ∈ gT := ⟨rfl, gT_in 341 (by decide +kernel) rfl, gT_in 342 (by decide +kernel) rfl, gT_in 343 (by decide +kernel) rfl⟩
theorem sX6_25 : vwCl[6]? = some (mX6_step.1.cls, TX6, 7) ∧ Cond.methodLink RX6 25 mX6_step.1 ∈ gT ∧ Cond.instanceMethod mX6_step.1 ∈ gT ∧ Cond.selects mX6_step.1.cls mX6_step.1 mX6_step.1 ∈ gT := ⟨rfl, gT_in 345 (by decide +kernel) rfl, gT_in 347 (by decide +kernel) rfl, gT_in 0 (by decide +kernel) rfl⟩
theorem sX6_125 : vwCl[6]? = some (mX6_byteAt.1.cls, TX6, 7) ∧ Cond.methodLink RX6 125 mX6_byteAt.1 ∈ gT ∧ Cond.instanceMethod mX6_byteAt.1 ∈ gT ∧ Cond.selects mX6_byteAt.1.cls mX6_byteAt.1 mX6_byteAt.1 ∈ gT := ⟨rfl, gT_in 349 (by decide +kernel) rfl, gT_in 351 (by decide +kernel) rfl, gT_in 1 (by decide +kernel) rfl⟩
theorem sX6_137 : Cond.methodLink RX6 137 mX6_sortOf.1 ∈ gT ∧ Cond.static mX6_sortOf.1 ∈ gT := ⟨gT_in 353 (by decide +kernel) rfl, gT_in 354 (by decide +kernel) rfl⟩
theorem sX6_31 : vwCl[6]? = some (mX6_tellThing.1.cls, TX6, 7) ∧ Cond.methodLink RX6 31 mX6_tellThing.1 ∈ gT ∧ Cond.instanceMethod mX6_tellThing.1 ∈ gT ∧ Cond.selects mX6_tellThing.1.cls mX6_tellThing.1 mX6_tellThing.1 ∈ gT := ⟨rfl, gT_in 356 (by decide +kernel) rfl, gT_in 358 (by decide +kernel) rfl, gT_in 2 (by decide +kernel) rfl⟩
theorem sX6_35 : vwCl[6]? = some (mX6_kindTold.1.cls, TX6, 7) ∧ Cond.methodLink RX6 35 mX6_kindTold.1 ∈ gT ∧ Cond.instanceMethod mX6_kindTold.1 ∈ gT ∧ Cond.selects mX6_kindTold.1.cls mX6_kindTold.1 mX6_kindTold.1 ∈ gT := ⟨rfl, gT_in 360 (by decide +kernel) rfl, gT_in 362 (by decide +kernel) rfl, gT_in 3 (by decide +kernel) rfl⟩
theorem sX6_50 : vwCl[6]? = some (mX6_isWord.1.cls, TX6, 7) ∧ Cond.methodLink RX6 50 mX6_isWord.1 ∈ gT ∧ Cond.instanceMethod mX6_isWord.1 ∈ gT ∧ Cond.selects mX6_isWord.1.cls mX6_isWord.1 mX6_isWord.1 ∈ gT := ⟨rfl, gT_in 365 (by decide +kernel) rfl, gT_in 367 (by decide +kernel) rfl, gT_in 4 (by decide +kernel) rfl⟩
theorem sJ0_495 : Cond.methodLink RJ0 495 mJ1_charAt_3b067.1 ∈ gT ∧ Cond.static mJ1_charAt_3b067.1 ∈ gT := ⟨gT_in 387 (by decide +kernel) rfl, gT_in 388 (by decide +kernel) rfl⟩
theorem sJ1_9 : Cond.methodLink RJ1 9 mJ0_checkIndex_df160.1 ∈ gT ∧ Cond.static mJ0_checkIndex_df160.1 ∈ gT := ⟨gT_in 390 (by decide +kernel) rfl, gT_in 391 (by decide +kernel) rfl⟩
theorem sJ0_1059 : Cond.methodLink RJ0 1059 mJ3_checkIndex_8e157.1 ∈ gT ∧ Cond.static mJ3_checkIndex_8e157.1 ∈ gT := ⟨gT_in 395 (by decide +kernel) rfl, gT_in 396 (by decide +kernel) rfl⟩
theorem sJ0_498 : Cond.methodLink RJ0 498 mJ2_charAt_3b067.1 ∈ gT ∧ Cond.static mJ2_charAt_3b067.1 ∈ gT := ⟨gT_in 398 (by decide +kernel) rfl, gT_in 399 (by decide +kernel) rfl⟩
theorem sJ2_67 : Cond.methodLink RJ2 67 mJ2_checkIndex_2214a.1 ∈ gT ∧ Cond.static mJ2_checkIndex_2214a.1 ∈ gT := ⟨gT_in 401 (by decide +kernel) rfl, gT_in 402 (by decide +kernel) rfl⟩
theorem sJ2_48 : Cond.methodLink RJ2 48 mJ2_length_9d52b.1 ∈ gT ∧ Cond.static mJ2_length_9d52b.1 ∈ gT := ⟨gT_in 404 (by decide +kernel) rfl, gT_in 405 (by decide +kernel) rfl⟩
theorem sJ2_414 : Cond.methodLink RJ2 414 mJ0_checkIndex_df160.1 ∈ gT ∧ Cond.static mJ0_checkIndex_df160.1 ∈ gT := ⟨gT_in 407 (by decide +kernel) rfl, gT_in 391 (by decide +kernel) rfl⟩
theorem sJ2_71 : Cond.methodLink RJ2 71 mJ2_getChar_3b067.1 ∈ gT ∧ Cond.static mJ2_getChar_3b067.1 ∈ gT := ⟨gT_in 408 (by decide +kernel) rfl, gT_in 409 (by decide +kernel) rfl⟩
theorem sX6_44 : vwCl[6]? = some (mX6_tellPath.1.cls, TX6, 7) ∧ Cond.methodLink RX6 44 mX6_tellPath.1 ∈ gT ∧ Cond.instanceMethod mX6_tellPath.1 ∈ gT ∧ Cond.selects mX6_tellPath.1.cls mX6_tellPath.1 mX6_tellPath.1 ∈ gT := ⟨rfl, gT_in 422 (by decide +kernel) rfl, gT_in 424 (by decide +kernel) rfl, gT_in 5 (by decide +kernel) rfl⟩
theorem sX6_92 : vwCl[6]? = some (mX6_takesNumber.1.cls, TX6, 7) ∧ Cond.methodLink RX6 92 mX6_takesNumber.1 ∈ gT ∧ Cond.instanceMethod mX6_takesNumber.1 ∈ gT ∧ Cond.selects mX6_takesNumber.1.cls mX6_takesNumber.1 mX6_takesNumber.1 ∈ gT := ⟨rfl, gT_in 426 (by decide +kernel) rfl, gT_in 428 (by decide +kernel) rfl, gT_in 6 (by decide +kernel) rfl⟩
theorem sX6_98 : vwCl[6]? = some (mX6_takesWord.1.cls, TX6, 7) ∧ Cond.methodLink RX6 98 mX6_takesWord.1 ∈ gT ∧ Cond.instanceMethod mX6_takesWord.1 ∈ gT ∧ Cond.selects mX6_takesWord.1.cls mX6_takesWord.1 mX6_takesWord.1 ∈ gT := ⟨rfl, gT_in 431 (by decide +kernel) rfl, gT_in 433 (by decide +kernel) rfl, gT_in 7 (by decide +kernel) rfl⟩
theorem sX6_104 : vwCl[10]? = some (mX10_addPath.1.cls, TX10, 18) ∧ Cond.methodLink RX6 104 mX10_addPath.1 ∈ gT ∧ Cond.instanceMethod mX10_addPath.1 ∈ gT ∧ Cond.selects mX10_addPath.1.cls mX10_addPath.1 mX10_addPath.1 ∈ gT := ⟨rfl, gT_in 436 (by decide +kernel) rfl, gT_in 437 (by decide +kernel) rfl, gT_in 438 (by decide +kernel) rfl⟩
theorem sX10_84 : vwCl[10]? = some (mX10_setThere.1.cls, TX10, 18) ∧ Cond.methodLink RX10 84 mX10_setThere.1 ∈ gT ∧ Cond.instanceMethod mX10_setThere.1 ∈ gT ∧ Cond.selects mX10_setThere.1.cls mX10_setThere.1 mX10_setThere.1 ∈ gT := ⟨rfl, gT_in 440 (by decide +kernel) rfl, gT_in 441 (by decide +kernel) rfl, gT_in 442 (by decide +kernel) rfl⟩
theorem sX6_62 : vwCl[6]? = some (mX6_takesWordIfThere.1.cls, TX6, 7) ∧ Cond.methodLink RX6 62 mX6_takesWordIfThere.1 ∈ gT ∧ Cond.instanceMethod mX6_takesWordIfThere.1 ∈ gT ∧ Cond.selects mX6_takesWordIfThere.1.cls mX6_takesWordIfThere.1 mX6_takesWordIfThere.1 ∈ gT := ⟨rfl, gT_in 445 (by decide +kernel) rfl, gT_in 447 (by decide +kernel) rfl, gT_in 8 (by decide +kernel) rfl⟩
theorem sX6_110 : vwCl[10]? = some (mX10_setThere.1.cls, TX10, 18) ∧ Cond.methodLink RX6 110 mX10_setThere.1 ∈ gT ∧ Cond.instanceMethod mX10_setThere.1 ∈ gT ∧ Cond.selects mX10_setThere.1.cls mX10_setThere.1 mX10_setThere.1 ∈ gT := ⟨rfl, gT_in 449 (by decide +kernel) rfl, gT_in 441 (by decide +kernel) rfl, gT_in 442 (by decide +kernel) rfl⟩
theorem sX6_57 : vwCl[6]? = some (mX6_tellWalker.1.cls, TX6, 7) ∧ Cond.methodLink RX6 57 mX6_tellWalker.1 ∈ gT ∧ Cond.instanceMethod mX6_tellWalker.1 ∈ gT ∧ Cond.selects mX6_tellWalker.1.cls mX6_tellWalker.1 mX6_tellWalker.1 ∈ gT := ⟨rfl, gT_in 451 (by decide +kernel) rfl, gT_in 453 (by decide +kernel) rfl, gT_in 9 (by decide +kernel) rfl⟩
theorem sX6_116 : vwCl[10]? = some (mX10_addWalker.1.cls, TX10, 18) ∧ Cond.methodLink RX6 116 mX10_addWalker.1 ∈ gT ∧ Cond.instanceMethod mX10_addWalker.1 ∈ gT ∧ Cond.selects mX10_addWalker.1.cls mX10_addWalker.1 mX10_addWalker.1 ∈ gT := ⟨rfl, gT_in 456 (by decide +kernel) rfl, gT_in 457 (by decide +kernel) rfl, gT_in 458 (by decide +kernel) rfl⟩
theorem sX10_88 : vwCl[10]? = some (mX10_setDown.1.cls, TX10, 18) ∧ Cond.methodLink RX10 88 mX10_setDown.1 ∈ gT ∧ Cond.instanceMethod mX10_setDown.1 ∈ gT ∧ Cond.selects mX10_setDown.1.cls mX10_setDown.1 mX10_setDown.1 ∈ gT := ⟨rfl, gT_in 460 (by decide +kernel) rfl, gT_in 461 (by decide +kernel) rfl, gT_in 462 (by decide +kernel) rfl⟩
theorem sX6_71 : vwCl[6]? = some (mX6_tellWeight.1.cls, TX6, 7) ∧ Cond.methodLink RX6 71 mX6_tellWeight.1 ∈ gT ∧ Cond.instanceMethod mX6_tellWeight.1 ∈ gT ∧ Cond.selects mX6_tellWeight.1.cls mX6_tellWeight.1 mX6_tellWeight.1 ∈ gT := ⟨rfl, gT_in 466 (by decide +kernel) rfl, gT_in 468 (by decide +kernel) rfl, gT_in 10 (by decide +kernel) rfl⟩
theorem sX6_77 : vwCl[6]? = some (mX6_takesEnd.1.cls, TX6, 7) ∧ Cond.methodLink RX6 77 mX6_takesEnd.1 ∈ gT ∧ Cond.instanceMethod mX6_takesEnd.1 ∈ gT ∧ Cond.selects mX6_takesEnd.1.cls mX6_takesEnd.1 mX6_takesEnd.1 ∈ gT := ⟨rfl, gT_in 470 (by decide +kernel) rfl, gT_in 472 (by decide +kernel) rfl, gT_in 11 (by decide +kernel) rfl⟩
theorem sL_25 : vwCl[11]? = some (mX11_path.1.cls, TX11, 13) ∧ Cond.methodLink RL 25 mX11_path.1 ∈ gT ∧ Cond.instanceMethod mX11_path.1 ∈ gT ∧ Cond.selects mX11_path.1.cls mX11_path.1 mX11_path.1 ∈ gT := ⟨rfl, gT_in 474 (by decide +kernel) rfl, gT_in 475 (by decide +kernel) rfl, gT_in 476 (by decide +kernel) rfl⟩
theorem sX11_90 : Cond.methodLink RX11 90 mX11_isClearing.1 ∈ gT ∧ Cond.static mX11_isClearing.1 ∈ gT := ⟨gT_in 478 (by decide +kernel) rfl, gT_in 479 (by decide +kernel) rfl⟩
theorem sX11_94 : Cond.methodLink RX11 94 mX11_isBelow.1 ∈ gT ∧ Cond.static mX11_isBelow.1 ∈ gT := ⟨gT_in 481 (by decide +kernel) rfl, gT_in 482 (by decide +kernel) rfl⟩
theorem sX11_98 : Cond.methodLink RX11 98 mX11_isUpTo.1 ∈ gT ∧ Cond.static mX11_isUpTo.1 ∈ gT := ⟨gT_in 484 (by decide +kernel) rfl, gT_in 485 (by decide +kernel) rfl⟩
theorem sX11_101 : vwCl[10]? = some (mX10_addPath.1.cls, TX10, 18) ∧ Cond.methodLink RX11 101 mX10_addPath.1 ∈ gT ∧ Cond.instanceMethod mX10_addPath.1 ∈ gT ∧ Cond.selects mX10_addPath.1.cls mX10_addPath.1 mX10_addPath.1 ∈ gT := ⟨rfl, gT_in 487 (by decide +kernel) rfl, gT_in 437 (by decide +kernel) rfl, gT_in 438 (by decide +kernel) rfl⟩
theorem sL_30 : vwCl[11]? = some (mX11_pathOf.1.cls, TX11, 13) ∧ Cond.methodLink RL 30 mX11_pathOf.1 ∈ gT ∧ Cond.instanceMethod mX11_pathOf.1 ∈ gT ∧ Cond.selects mX11_pathOf.1.cls mX11_pathOf.1 mX11_pathOf.1 ∈ gT := ⟨rfl, gT_in 488 (by decide +kernel) rfl, gT_in 489 (by decide +kernel) rfl, gT_in 490 (by decide +kernel) rfl⟩
theorem sX11_105 : vwCl[10]? = some (mX10_hasPath.1.cls, TX10, 18) ∧ Cond.methodLink RX11 105 mX10_hasPath.1 ∈ gT ∧ Cond.instanceMethod mX10_hasPath.1 ∈ gT ∧ Cond.selects mX10_hasPath.1.cls mX10_hasPath.1 mX10_hasPath.1 ∈ gT := ⟨rfl, gT_in 492 (by decide +kernel) rfl, gT_in 493 (by decide +kernel) rfl, gT_in 494 (by decide +kernel) rfl⟩
theorem sX11_123 : vwCl[10]? = some (mX10_isThere.1.cls, TX10, 18) ∧ Cond.methodLink RX11 123 mX10_isThere.1 ∈ gT ∧ Cond.instanceMethod mX10_isThere.1 ∈ gT ∧ Cond.selects mX10_isThere.1.cls mX10_isThere.1 mX10_isThere.1 ∈ gT := ⟨rfl, gT_in 497 (by decide +kernel) rfl, gT_in 498 (by decide +kernel) rfl, gT_in 499 (by decide +kernel) rfl⟩
theorem sX11_126 : vwCl[10]? = some (mX10_staysOf.1.cls, TX10, 18) ∧ Cond.methodLink RX11 126 mX10_staysOf.1 ∈ gT ∧ Cond.instanceMethod mX10_staysOf.1 ∈ gT ∧ Cond.selects mX10_staysOf.1.cls mX10_staysOf.1 mX10_staysOf.1 ∈ gT := ⟨rfl, gT_in 504 (by decide +kernel) rfl, gT_in 505 (by decide +kernel) rfl, gT_in 506 (by decide +kernel) rfl⟩
theorem sX10_109 : Cond.methodLink RX10 109 mJ9_min_7cf53.1 ∈ gT ∧ Cond.static mJ9_min_7cf53.1 ∈ gT := ⟨gT_in 508 (by decide +kernel) rfl, gT_in 509 (by decide +kernel) rfl⟩
theorem sX10_114 : Cond.methodLink RX10 114 mJ9_max_7cf53.1 ∈ gT ∧ Cond.static mJ9_max_7cf53.1 ∈ gT := ⟨gT_in 511 (by decide +kernel) rfl, gT_in 512 (by decide +kernel) rfl⟩
theorem sX10_117 : vwCl[10]? = some (mX10_someoneAtEnd.1.cls, TX10, 18) ∧ Cond.methodLink RX10 117 mX10_someoneAtEnd.1 ∈ gT ∧ Cond.instanceMethod mX10_someoneAtEnd.1 ∈ gT ∧ Cond.selects mX10_someoneAtEnd.1.cls mX10_someoneAtEnd.1 mX10_someoneAtEnd.1 ∈ gT := ⟨rfl, gT_in 514 (by decide +kernel) rfl, gT_in 515 (by decide +kernel) rfl, gT_in 516 (by decide +kernel) rfl⟩
theorem sX11_130 : vwCl[10]? = some (mX10_comesOf.1.cls, TX10, 18) ∧ Cond.methodLink RX11 130 mX10_comesOf.1 ∈ gT ∧ Cond.instanceMethod mX10_comesOf.1 ∈ gT ∧ Cond.selects mX10_comesOf.1.cls mX10_comesOf.1 mX10_comesOf.1 ∈ gT := ⟨rfl, gT_in 518 (by decide +kernel) rfl, gT_in 519 (by decide +kernel) rfl, gT_in 520 (by decide +kernel) rfl⟩
theorem sX11_133 : vwCl[10]? = some (mX10_walkersOn.1.cls, TX10, 18) ∧ Cond.methodLink RX11 133 mX10_walkersOn.1 ∈ gT ∧ Cond.instanceMethod mX10_walkersOn.1 ∈ gT ∧ Cond.selects mX10_walkersOn.1.cls mX10_walkersOn.1 mX10_walkersOn.1 ∈ gT := ⟨rfl, gT_in 522 (by decide +kernel) rfl, gT_in 523 (by decide +kernel) rfl, gT_in 524 (by decide +kernel) rfl⟩
theorem sL_35 : vwCl[11]? = some (mX11_open.1.cls, TX11, 13) ∧ Cond.methodLink RL 35 mX11_open.1 ∈ gT ∧ Cond.instanceMethod mX11_open.1 ∈ gT ∧ Cond.selects mX11_open.1.cls mX11_open.1 mX11_open.1 ∈ gT := ⟨rfl, gT_in 526 (by decide +kernel) rfl, gT_in 527 (by decide +kernel) rfl, gT_in 528 (by decide +kernel) rfl⟩
theorem sX11_136 : vwCl[10]? = some (mX10_setThere.1.cls, TX10, 18) ∧ Cond.methodLink RX11 136 mX10_setThere.1 ∈ gT ∧ Cond.instanceMethod mX10_setThere.1 ∈ gT ∧ Cond.selects mX10_setThere.1.cls mX10_setThere.1 mX10_setThere.1 ∈ gT := ⟨rfl, gT_in 530 (by decide +kernel) rfl, gT_in 441 (by decide +kernel) rfl, gT_in 442 (by decide +kernel) rfl⟩
theorem sL_40 : vwCl[11]? = some (mX11_rain.1.cls, TX11, 13) ∧ Cond.methodLink RL 40 mX11_rain.1 ∈ gT ∧ Cond.instanceMethod mX11_rain.1 ∈ gT ∧ Cond.selects mX11_rain.1.cls mX11_rain.1 mX11_rain.1 ∈ gT := ⟨rfl, gT_in 531 (by decide +kernel) rfl, gT_in 532 (by decide +kernel) rfl, gT_in 533 (by decide +kernel) rfl⟩
theorem sL_45 : vwCl[11]? = some (mX11_weigh.1.cls, TX11, 13) ∧ Cond.methodLink RL 45 mX11_weigh.1 ∈ gT ∧ Cond.instanceMethod mX11_weigh.1 ∈ gT ∧ Cond.selects mX11_weigh.1.cls mX11_weigh.1 mX11_weigh.1 ∈ gT := ⟨rfl, gT_in 535 (by decide +kernel) rfl, gT_in 536 (by decide +kernel) rfl, gT_in 537 (by decide +kernel) rfl⟩
theorem sL_49 : vwCl[11]? = some (mX11_walker.1.cls, TX11, 13) ∧ Cond.methodLink RL 49 mX11_walker.1 ∈ gT ∧ Cond.instanceMethod mX11_walker.1 ∈ gT ∧ Cond.selects mX11_walker.1.cls mX11_walker.1 mX11_walker.1 ∈ gT := ⟨rfl, gT_in 539 (by decide +kernel) rfl, gT_in 540 (by decide +kernel) rfl, gT_in 541 (by decide +kernel) rfl⟩
theorem sX11_150 : vwCl[10]? = some (mX10_addWalker.1.cls, TX10, 18) ∧ Cond.methodLink RX11 150 mX10_addWalker.1 ∈ gT ∧ Cond.instanceMethod mX10_addWalker.1 ∈ gT ∧ Cond.selects mX10_addWalker.1.cls mX10_addWalker.1 mX10_addWalker.1 ∈ gT := ⟨rfl, gT_in 543 (by decide +kernel) rfl, gT_in 457 (by decide +kernel) rfl, gT_in 458 (by decide +kernel) rfl⟩
theorem sL_53 : vwCl[11]? = some (mX11_walkerOf.1.cls, TX11, 13) ∧ Cond.methodLink RL 53 mX11_walkerOf.1 ∈ gT ∧ Cond.instanceMethod mX11_walkerOf.1 ∈ gT ∧ Cond.selects mX11_walkerOf.1.cls mX11_walkerOf.1 mX11_walkerOf.1 ∈ gT := ⟨rfl, gT_in 544 (by decide +kernel) rfl, gT_in 545 (by decide +kernel) rfl, gT_in 546 (by decide +kernel) rfl⟩
theorem sX11_154 : vwCl[10]? = some (mX10_hasWalker.1.cls, TX10, 18) ∧ Cond.methodLink RX11 154 mX10_hasWalker.1 ∈ gT ∧ Cond.instanceMethod mX10_hasWalker.1 ∈ gT ∧ Cond.selects mX10_hasWalker.1.cls mX10_hasWalker.1 mX10_hasWalker.1 ∈ gT := ⟨rfl, gT_in 548 (by decide +kernel) rfl, gT_in 549 (by decide +kernel) rfl, gT_in 550 (by decide +kernel) rfl⟩
theorem sL_57 : vwCl[11]? = some (mX11_walk.1.cls, TX11, 13) ∧ Cond.methodLink RL 57 mX11_walk.1 ∈ gT ∧ Cond.instanceMethod mX11_walk.1 ∈ gT ∧ Cond.selects mX11_walk.1.cls mX11_walk.1 mX11_walk.1 ∈ gT := ⟨rfl, gT_in 552 (by decide +kernel) rfl, gT_in 553 (by decide +kernel) rfl, gT_in 554 (by decide +kernel) rfl⟩
theorem sX11_166 : vwCl[10]? = some (mX10_mayStep.1.cls, TX10, 18) ∧ Cond.methodLink RX11 166 mX10_mayStep.1 ∈ gT ∧ Cond.instanceMethod mX10_mayStep.1 ∈ gT ∧ Cond.selects mX10_mayStep.1.cls mX10_mayStep.1 mX10_mayStep.1 ∈ gT := ⟨rfl, gT_in 556 (by decide +kernel) rfl, gT_in 557 (by decide +kernel) rfl, gT_in 558 (by decide +kernel) rfl⟩
theorem sX10_99 : vwCl[10]? = some (mX10_isThere.1.cls, TX10, 18) ∧ Cond.methodLink RX10 99 mX10_isThere.1 ∈ gT ∧ Cond.instanceMethod mX10_isThere.1 ∈ gT ∧ Cond.selects mX10_isThere.1.cls mX10_isThere.1 mX10_isThere.1 ∈ gT := ⟨rfl, gT_in 560 (by decide +kernel) rfl, gT_in 498 (by decide +kernel) rfl, gT_in 499 (by decide +kernel) rfl⟩
theorem sX10_102 : vwCl[10]? = some (mX10_endsAt.1.cls, TX10, 18) ∧ Cond.methodLink RX10 102 mX10_endsAt.1 ∈ gT ∧ Cond.instanceMethod mX10_endsAt.1 ∈ gT ∧ Cond.selects mX10_endsAt.1.cls mX10_endsAt.1 mX10_endsAt.1 ∈ gT := ⟨rfl, gT_in 561 (by decide +kernel) rfl, gT_in 562 (by decide +kernel) rfl, gT_in 563 (by decide +kernel) rfl⟩
theorem sX11_169 : vwCl[10]? = some (mX10_goAlong.1.cls, TX10, 18) ∧ Cond.methodLink RX11 169 mX10_goAlong.1 ∈ gT ∧ Cond.instanceMethod mX10_goAlong.1 ∈ gT ∧ Cond.selects mX10_goAlong.1.cls mX10_goAlong.1 mX10_goAlong.1 ∈ gT := ⟨rfl, gT_in 565 (by decide +kernel) rfl, gT_in 566 (by decide +kernel) rfl, gT_in 567 (by decide +kernel) rfl⟩
theorem sX10_105 : vwCl[10]? = some (mX10_otherEnd.1.cls, TX10, 18) ∧ Cond.methodLink RX10 105 mX10_otherEnd.1 ∈ gT ∧ Cond.instanceMethod mX10_otherEnd.1 ∈ gT ∧ Cond.selects mX10_otherEnd.1.cls mX10_otherEnd.1 mX10_otherEnd.1 ∈ gT := ⟨rfl, gT_in 569 (by decide +kernel) rfl, gT_in 570 (by decide +kernel) rfl, gT_in 571 (by decide +kernel) rfl⟩
theorem sL_61 : vwCl[11]? = some (mX11_on.1.cls, TX11, 13) ∧ Cond.methodLink RL 61 mX11_on.1 ∈ gT ∧ Cond.instanceMethod mX11_on.1 ∈ gT ∧ Cond.selects mX11_on.1.cls mX11_on.1 mX11_on.1 ∈ gT := ⟨rfl, gT_in 573 (by decide +kernel) rfl, gT_in 574 (by decide +kernel) rfl, gT_in 575 (by decide +kernel) rfl⟩
theorem sX11_173 : vwCl[10]? = some (mX10_comeOn.1.cls, TX10, 18) ∧ Cond.methodLink RX11 173 mX10_comeOn.1 ∈ gT ∧ Cond.instanceMethod mX10_comeOn.1 ∈ gT ∧ Cond.selects mX10_comeOn.1.cls mX10_comeOn.1 mX10_comeOn.1 ∈ gT := ⟨rfl, gT_in 577 (by decide +kernel) rfl, gT_in 578 (by decide +kernel) rfl, gT_in 579 (by decide +kernel) rfl⟩
theorem sX11_176 : Cond.methodLink RX11 176 mJ6_bitCount_0f7a4.1 ∈ gT ∧ Cond.static mJ6_bitCount_0f7a4.1 ∈ gT := ⟨gT_in 581 (by decide +kernel) rfl, gT_in 582 (by decide +kernel) rfl⟩
theorem kJ6_265 : Cond.constant RJ6 265 (1431655765) ∈ gT := gT_in 584 (by decide +kernel) rfl
theorem kJ6_266 : Cond.constant RJ6 266 (858993459) ∈ gT := gT_in 585 (by decide +kernel) rfl
theorem kJ6_267 : Cond.constant RJ6 267 (252645135) ∈ gT := gT_in 586 (by decide +kernel) rfl
theorem sL_65 : vwCl[11]? = some (mX11_off.1.cls, TX11, 13) ∧ Cond.methodLink RL 65 mX11_off.1 ∈ gT ∧ Cond.instanceMethod mX11_off.1 ∈ gT ∧ Cond.selects mX11_off.1.cls mX11_off.1 mX11_off.1 ∈ gT := ⟨rfl, gT_in 587 (by decide +kernel) rfl, gT_in 588 (by decide +kernel) rfl, gT_in 589 (by decide +kernel) rfl⟩
theorem sX11_181 : vwCl[10]? = some (mX10_endsAt.1.cls, TX10, 18) ∧ Cond.methodLink RX11 181 mX10_endsAt.1 ∈ gT ∧ Cond.instanceMethod mX10_endsAt.1 ∈ gT ∧ Cond.selects mX10_endsAt.1.cls mX10_endsAt.1 mX10_endsAt.1 ∈ gT := ⟨rfl, gT_in 591 (by decide +kernel) rfl, gT_in 562 (by decide +kernel) rfl, gT_in 563 (by decide +kernel) rfl⟩
theorem sX11_184 : vwCl[10]? = some (mX10_setDown.1.cls, TX10, 18) ∧ Cond.methodLink RX11 184 mX10_setDown.1 ∈ gT ∧ Cond.instanceMethod mX10_setDown.1 ∈ gT ∧ Cond.selects mX10_setDown.1.cls mX10_setDown.1 mX10_setDown.1 ∈ gT := ⟨rfl, gT_in 592 (by decide +kernel) rfl, gT_in 461 (by decide +kernel) rfl, gT_in 462 (by decide +kernel) rfl⟩
theorem sL_69 : vwCl[11]? = some (mX11_put.1.cls, TX11, 13) ∧ Cond.methodLink RL 69 mX11_put.1 ∈ gT ∧ Cond.instanceMethod mX11_put.1 ∈ gT ∧ Cond.selects mX11_put.1.cls mX11_put.1 mX11_put.1 ∈ gT := ⟨rfl, gT_in 593 (by decide +kernel) rfl, gT_in 594 (by decide +kernel) rfl, gT_in 595 (by decide +kernel) rfl⟩
theorem sL_73 : vwCl[11]? = some (mX11_night.1.cls, TX11, 13) ∧ Cond.methodLink RL 73 mX11_night.1 ∈ gT ∧ Cond.instanceMethod mX11_night.1 ∈ gT ∧ Cond.selects mX11_night.1.cls mX11_night.1 mX11_night.1 ∈ gT := ⟨rfl, gT_in 597 (by decide +kernel) rfl, gT_in 598 (by decide +kernel) rfl, gT_in 599 (by decide +kernel) rfl⟩
theorem sX11_187 : vwCl[10]? = some (mX10_passNight.1.cls, TX10, 18) ∧ Cond.methodLink RX11 187 mX10_passNight.1 ∈ gT ∧ Cond.instanceMethod mX10_passNight.1 ∈ gT ∧ Cond.selects mX10_passNight.1.cls mX10_passNight.1 mX10_passNight.1 ∈ gT := ⟨rfl, gT_in 601 (by decide +kernel) rfl, gT_in 602 (by decide +kernel) rfl, gT_in 603 (by decide +kernel) rfl⟩
theorem sX10_120 : vwCl[10]? = some (mX10_walkersOn.1.cls, TX10, 18) ∧ Cond.methodLink RX10 120 mX10_walkersOn.1 ∈ gT ∧ Cond.instanceMethod mX10_walkersOn.1 ∈ gT ∧ Cond.selects mX10_walkersOn.1.cls mX10_walkersOn.1 mX10_walkersOn.1 ∈ gT := ⟨rfl, gT_in 605 (by decide +kernel) rfl, gT_in 523 (by decide +kernel) rfl, gT_in 524 (by decide +kernel) rfl⟩
theorem kX10_130 : Cond.constant RX10 130 (1103515245) ∈ gT := gT_in 606 (by decide +kernel) rfl
theorem sX10_131 : vwCl[10]? = some (mX10_chanceOf.1.cls, TX10, 18) ∧ Cond.methodLink RX10 131 mX10_chanceOf.1 ∈ gT ∧ Cond.instanceMethod mX10_chanceOf.1 ∈ gT ∧ Cond.selects mX10_chanceOf.1.cls mX10_chanceOf.1 mX10_chanceOf.1 ∈ gT := ⟨rfl, gT_in 607 (by decide +kernel) rfl, gT_in 608 (by decide +kernel) rfl, gT_in 609 (by decide +kernel) rfl⟩
theorem sX10_124 : vwCl[10]? = some (mX10_staysOf.1.cls, TX10, 18) ∧ Cond.methodLink RX10 124 mX10_staysOf.1 ∈ gT ∧ Cond.instanceMethod mX10_staysOf.1 ∈ gT ∧ Cond.selects mX10_staysOf.1.cls mX10_staysOf.1 mX10_staysOf.1 ∈ gT := ⟨rfl, gT_in 611 (by decide +kernel) rfl, gT_in 505 (by decide +kernel) rfl, gT_in 506 (by decide +kernel) rfl⟩
theorem sX10_127 : vwCl[10]? = some (mX10_comesOf.1.cls, TX10, 18) ∧ Cond.methodLink RX10 127 mX10_comesOf.1 ∈ gT ∧ Cond.instanceMethod mX10_comesOf.1 ∈ gT ∧ Cond.selects mX10_comesOf.1.cls mX10_comesOf.1 mX10_comesOf.1 ∈ gT := ⟨rfl, gT_in 612 (by decide +kernel) rfl, gT_in 519 (by decide +kernel) rfl, gT_in 520 (by decide +kernel) rfl⟩
theorem sL_78 : vwCl[11]? = some (mX11_count.1.cls, TX11, 13) ∧ Cond.methodLink RL 78 mX11_count.1 ∈ gT ∧ Cond.instanceMethod mX11_count.1 ∈ gT ∧ Cond.selects mX11_count.1.cls mX11_count.1 mX11_count.1 ∈ gT := ⟨rfl, gT_in 613 (by decide +kernel) rfl, gT_in 614 (by decide +kernel) rfl, gT_in 615 (by decide +kernel) rfl⟩
theorem sX11_196 : vwCl[10]? = some (mX10_pathsWalked.1.cls, TX10, 18) ∧ Cond.methodLink RX11 196 mX10_pathsWalked.1 ∈ gT ∧ Cond.instanceMethod mX10_pathsWalked.1 ∈ gT ∧ Cond.selects mX10_pathsWalked.1.cls mX10_pathsWalked.1 mX10_pathsWalked.1 ∈ gT := ⟨rfl, gT_in 617 (by decide +kernel) rfl, gT_in 618 (by decide +kernel) rfl, gT_in 619 (by decide +kernel) rfl⟩
theorem sX10_95 : vwCl[10]? = some (mX10_hasPath.1.cls, TX10, 18) ∧ Cond.methodLink RX10 95 mX10_hasPath.1 ∈ gT ∧ Cond.instanceMethod mX10_hasPath.1 ∈ gT ∧ Cond.selects mX10_hasPath.1.cls mX10_hasPath.1 mX10_hasPath.1 ∈ gT := ⟨rfl, gT_in 621 (by decide +kernel) rfl, gT_in 493 (by decide +kernel) rfl, gT_in 494 (by decide +kernel) rfl⟩
theorem sX11_200 : vwCl[10]? = some (mX10_payOf.1.cls, TX10, 18) ∧ Cond.methodLink RX11 200 mX10_payOf.1 ∈ gT ∧ Cond.instanceMethod mX10_payOf.1 ∈ gT ∧ Cond.selects mX10_payOf.1.cls mX10_payOf.1 mX10_payOf.1 ∈ gT := ⟨rfl, gT_in 622 (by decide +kernel) rfl, gT_in 623 (by decide +kernel) rfl, gT_in 624 (by decide +kernel) rfl⟩
theorem sL_82 : vwCl[11]? = some (mX11_seed.1.cls, TX11, 13) ∧ Cond.methodLink RL 82 mX11_seed.1 ∈ gT ∧ Cond.instanceMethod mX11_seed.1 ∈ gT ∧ Cond.selects mX11_seed.1.cls mX11_seed.1 mX11_seed.1 ∈ gT := ⟨rfl, gT_in 626 (by decide +kernel) rfl, gT_in 627 (by decide +kernel) rfl, gT_in 628 (by decide +kernel) rfl⟩
theorem sL_86 : vwCl[11]? = some (mX11_way.1.cls, TX11, 13) ∧ Cond.methodLink RL 86 mX11_way.1 ∈ gT ∧ Cond.instanceMethod mX11_way.1 ∈ gT ∧ Cond.selects mX11_way.1.cls mX11_way.1 mX11_way.1 ∈ gT := ⟨rfl, gT_in 630 (by decide +kernel) rfl, gT_in 631 (by decide +kernel) rfl, gT_in 632 (by decide +kernel) rfl⟩
theorem sX11_207 : vwCl[10]? = some (mX10_distance.1.cls, TX10, 18) ∧ Cond.methodLink RX11 207 mX10_distance.1 ∈ gT ∧ Cond.instanceMethod mX10_distance.1 ∈ gT ∧ Cond.selects mX10_distance.1.cls mX10_distance.1 mX10_distance.1 ∈ gT := ⟨rfl, gT_in 634 (by decide +kernel) rfl, gT_in 635 (by decide +kernel) rfl, gT_in 636 (by decide +kernel) rfl⟩
theorem sX10_135 : vwCl[10]? = some (mX10_grown.1.cls, TX10, 18) ∧ Cond.methodLink RX10 135 mX10_grown.1 ∈ gT ∧ Cond.instanceMethod mX10_grown.1 ∈ gT ∧ Cond.selects mX10_grown.1.cls mX10_grown.1 mX10_grown.1 ∈ gT := ⟨rfl, gT_in 638 (by decide +kernel) rfl, gT_in 639 (by decide +kernel) rfl, gT_in 640 (by decide +kernel) rfl⟩
theorem sL_90 : vwCl[11]? = some (mX11_reach.1.cls, TX11, 13) ∧ Cond.methodLink RL 90 mX11_reach.1 ∈ gT ∧ Cond.instanceMethod mX11_reach.1 ∈ gT ∧ Cond.selects mX11_reach.1.cls mX11_reach.1 mX11_reach.1 ∈ gT := ⟨rfl, gT_in 642 (by decide +kernel) rfl, gT_in 643 (by decide +kernel) rfl, gT_in 644 (by decide +kernel) rfl⟩
theorem sX11_210 : vwCl[10]? = some (mX10_reachFrom.1.cls, TX10, 18) ∧ Cond.methodLink RX11 210 mX10_reachFrom.1 ∈ gT ∧ Cond.instanceMethod mX10_reachFrom.1 ∈ gT ∧ Cond.selects mX10_reachFrom.1.cls mX10_reachFrom.1 mX10_reachFrom.1 ∈ gT := ⟨rfl, gT_in 646 (by decide +kernel) rfl, gT_in 647 (by decide +kernel) rfl, gT_in 648 (by decide +kernel) rfl⟩
theorem sL_94 : vwCl[11]? = some (mX11_odds.1.cls, TX11, 13) ∧ Cond.methodLink RL 94 mX11_odds.1 ∈ gT ∧ Cond.instanceMethod mX11_odds.1 ∈ gT ∧ Cond.selects mX11_odds.1.cls mX11_odds.1 mX11_odds.1 ∈ gT := ⟨rfl, gT_in 650 (by decide +kernel) rfl, gT_in 651 (by decide +kernel) rfl, gT_in 652 (by decide +kernel) rfl⟩
theorem sX11_213 : Cond.methodLink RX11 213 mX11_isPart.1 ∈ gT ∧ Cond.static mX11_isPart.1 ∈ gT := ⟨gT_in 654 (by decide +kernel) rfl, gT_in 655 (by decide +kernel) rfl⟩
theorem kX11_216 : Cond.constantLong RX11 216 (-1) ∈ gT := gT_in 657 (by decide +kernel) rfl
theorem sX11_218 : vwCl[1]? = some (mX1_lookAhead.1.cls, TX1, 5) ∧ Cond.methodLink RX11 218 mX1_lookAhead.1 ∈ gT ∧ Cond.instanceMethod mX1_lookAhead.1 ∈ gT ∧ Cond.selects mX1_lookAhead.1.cls mX1_lookAhead.1 mX1_lookAhead.1 ∈ gT := ⟨rfl, gT_in 658 (by decide +kernel) rfl, gT_in 659 (by decide +kernel) rfl, gT_in 660 (by decide +kernel) rfl⟩
theorem sX1_49 : vwCl[1]? = some (mX1_joinAll.1.cls, TX1, 5) ∧ Cond.methodLink RX1 49 mX1_joinAll.1 ∈ gT ∧ Cond.instanceMethod mX1_joinAll.1 ∈ gT ∧ Cond.selects mX1_joinAll.1.cls mX1_joinAll.1 mX1_joinAll.1 ∈ gT := ⟨rfl, gT_in 662 (by decide +kernel) rfl, gT_in 663 (by decide +kernel) rfl, gT_in 664 (by decide +kernel) rfl⟩
theorem kX1_34 : Cond.constantLong RX1 34 (-9205322385119247871) ∈ gT := gT_in 666 (by decide +kernel) rfl
theorem sX1_43 : Cond.methodLink RX1 43 mX1_joinedToo.1 ∈ gT ∧ Cond.static mX1_joinedToo.1 ∈ gT := ⟨gT_in 667 (by decide +kernel) rfl, gT_in 668 (by decide +kernel) rfl⟩
theorem kX1_47 : Cond.constantLong RX1 47 (255) ∈ gT := gT_in 670 (by decide +kernel) rfl
theorem sX1_53 : vwCl[10]? = some (mX10_isThere.1.cls, TX10, 18) ∧ Cond.methodLink RX1 53 mX10_isThere.1 ∈ gT ∧ Cond.instanceMethod mX10_isThere.1 ∈ gT ∧ Cond.selects mX10_isThere.1.cls mX10_isThere.1 mX10_isThere.1 ∈ gT := ⟨rfl, gT_in 671 (by decide +kernel) rfl, gT_in 498 (by decide +kernel) rfl, gT_in 499 (by decide +kernel) rfl⟩
theorem sX1_57 : vwCl[10]? = some (mX10_chanceOf.1.cls, TX10, 18) ∧ Cond.methodLink RX1 57 mX10_chanceOf.1 ∈ gT ∧ Cond.instanceMethod mX10_chanceOf.1 ∈ gT ∧ Cond.selects mX10_chanceOf.1.cls mX10_chanceOf.1 mX10_chanceOf.1 ∈ gT := ⟨rfl, gT_in 672 (by decide +kernel) rfl, gT_in 608 (by decide +kernel) rfl, gT_in 609 (by decide +kernel) rfl⟩
theorem sX11_221 : vwCl[1]? = some (mX1_oddsOf.1.cls, TX1, 5) ∧ Cond.methodLink RX11 221 mX1_oddsOf.1 ∈ gT ∧ Cond.instanceMethod mX1_oddsOf.1 ∈ gT ∧ Cond.selects mX1_oddsOf.1.cls mX1_oddsOf.1 mX1_oddsOf.1 ∈ gT := ⟨rfl, gT_in 673 (by decide +kernel) rfl, gT_in 674 (by decide +kernel) rfl, gT_in 675 (by decide +kernel) rfl⟩
theorem sX1_61 : vwCl[1]? = some (mX1_joins.1.cls, TX1, 5) ∧ Cond.methodLink RX1 61 mX1_joins.1 ∈ gT ∧ Cond.instanceMethod mX1_joins.1 ∈ gT ∧ Cond.selects mX1_joins.1.cls mX1_joins.1 mX1_joins.1 ∈ gT := ⟨rfl, gT_in 677 (by decide +kernel) rfl, gT_in 678 (by decide +kernel) rfl, gT_in 679 (by decide +kernel) rfl⟩
theorem sX11_229 : Cond.methodLink RX11 229 mX11_partOf.1 ∈ gT ∧ Cond.static mX11_partOf.1 ∈ gT := ⟨gT_in 681 (by decide +kernel) rfl, gT_in 682 (by decide +kernel) rfl⟩
theorem sL_99 : vwCl[11]? = some (mX11_held.1.cls, TX11, 13) ∧ Cond.methodLink RL 99 mX11_held.1 ∈ gT ∧ Cond.instanceMethod mX11_held.1 ∈ gT ∧ Cond.selects mX11_held.1.cls mX11_held.1 mX11_held.1 ∈ gT := ⟨rfl, gT_in 684 (by decide +kernel) rfl, gT_in 685 (by decide +kernel) rfl, gT_in 686 (by decide +kernel) rfl⟩
theorem sX11_233 : vwCl[1]? = some (mX1_bestHeld.1.cls, TX1, 5) ∧ Cond.methodLink RX11 233 mX1_bestHeld.1 ∈ gT ∧ Cond.instanceMethod mX1_bestHeld.1 ∈ gT ∧ Cond.selects mX1_bestHeld.1.cls mX1_bestHeld.1 mX1_bestHeld.1 ∈ gT := ⟨rfl, gT_in 688 (by decide +kernel) rfl, gT_in 689 (by decide +kernel) rfl, gT_in 690 (by decide +kernel) rfl⟩
theorem sX1_71 : vwCl[1]? = some (mX1_valueWhereJoined.1.cls, TX1, 5) ∧ Cond.methodLink RX1 71 mX1_valueWhereJoined.1 ∈ gT ∧ Cond.instanceMethod mX1_valueWhereJoined.1 ∈ gT ∧ Cond.selects mX1_valueWhereJoined.1.cls mX1_valueWhereJoined.1 mX1_valueWhereJoined.1 ∈ gT := ⟨rfl, gT_in 692 (by decide +kernel) rfl, gT_in 694 (by decide +kernel) rfl, gT_in 12 (by decide +kernel) rfl⟩
theorem sX1_75 : vwCl[1]? = some (mX1_mix.1.cls, TX1, 5) ∧ Cond.methodLink RX1 75 mX1_mix.1 ∈ gT ∧ Cond.instanceMethod mX1_mix.1 ∈ gT ∧ Cond.selects mX1_mix.1.cls mX1_mix.1 mX1_mix.1 ∈ gT := ⟨rfl, gT_in 696 (by decide +kernel) rfl, gT_in 698 (by decide +kernel) rfl, gT_in 13 (by decide +kernel) rfl⟩
theorem sX1_82 : Cond.methodLink RX1 82 mJ6_bitCount_0f7a4.1 ∈ gT ∧ Cond.static mJ6_bitCount_0f7a4.1 ∈ gT := ⟨gT_in 700 (by decide +kernel) rfl, gT_in 582 (by decide +kernel) rfl⟩
theorem sX1_88 : vwCl[1]? = some (mX1_isBetterHeld.1.cls, TX1, 5) ∧ Cond.methodLink RX1 88 mX1_isBetterHeld.1 ∈ gT ∧ Cond.instanceMethod mX1_isBetterHeld.1 ∈ gT ∧ Cond.selects mX1_isBetterHeld.1.cls mX1_isBetterHeld.1 mX1_isBetterHeld.1 ∈ gT := ⟨rfl, gT_in 701 (by decide +kernel) rfl, gT_in 703 (by decide +kernel) rfl, gT_in 14 (by decide +kernel) rfl⟩
theorem sL_104 : vwCl[11]? = some (mX11_keepers.1.cls, TX11, 13) ∧ Cond.methodLink RL 104 mX11_keepers.1 ∈ gT ∧ Cond.instanceMethod mX11_keepers.1 ∈ gT ∧ Cond.selects mX11_keepers.1.cls mX11_keepers.1 mX11_keepers.1 ∈ gT := ⟨rfl, gT_in 705 (by decide +kernel) rfl, gT_in 706 (by decide +kernel) rfl, gT_in 707 (by decide +kernel) rfl⟩
theorem sX11_237 : vwCl[1]? = some (mX1_fewestKept.1.cls, TX1, 5) ∧ Cond.methodLink RX11 237 mX1_fewestKept.1 ∈ gT ∧ Cond.instanceMethod mX1_fewestKept.1 ∈ gT ∧ Cond.selects mX1_fewestKept.1.cls mX1_fewestKept.1 mX1_fewestKept.1 ∈ gT := ⟨rfl, gT_in 709 (by decide +kernel) rfl, gT_in 710 (by decide +kernel) rfl, gT_in 711 (by decide +kernel) rfl⟩
theorem sX1_92 : Cond.methodLink RX1 92 mX1_surePaths.1 ∈ gT ∧ Cond.static mX1_surePaths.1 ∈ gT := ⟨gT_in 713 (by decide +kernel) rfl, gT_in 714 (by decide +kernel) rfl⟩
theorem sL_108 : vwCl[11]? = some (mX11_home.1.cls, TX11, 13) ∧ Cond.methodLink RL 108 mX11_home.1 ∈ gT ∧ Cond.instanceMethod mX11_home.1 ∈ gT ∧ Cond.selects mX11_home.1.cls mX11_home.1 mX11_home.1 ∈ gT := ⟨rfl, gT_in 716 (by decide +kernel) rfl, gT_in 717 (by decide +kernel) rfl, gT_in 718 (by decide +kernel) rfl⟩
theorem sX11_241 : vwCl[1]? = some (mX1_oddsReach.1.cls, TX1, 5) ∧ Cond.methodLink RX11 241 mX1_oddsReach.1 ∈ gT ∧ Cond.instanceMethod mX1_oddsReach.1 ∈ gT ∧ Cond.selects mX1_oddsReach.1.cls mX1_oddsReach.1 mX1_oddsReach.1 ∈ gT := ⟨rfl, gT_in 720 (by decide +kernel) rfl, gT_in 721 (by decide +kernel) rfl, gT_in 722 (by decide +kernel) rfl⟩
theorem sX1_65 : vwCl[1]? = some (mX1_oddsOf.1.cls, TX1, 5) ∧ Cond.methodLink RX1 65 mX1_oddsOf.1 ∈ gT ∧ Cond.instanceMethod mX1_oddsOf.1 ∈ gT ∧ Cond.selects mX1_oddsOf.1.cls mX1_oddsOf.1 mX1_oddsOf.1 ∈ gT := ⟨rfl, gT_in 724 (by decide +kernel) rfl, gT_in 674 (by decide +kernel) rfl, gT_in 675 (by decide +kernel) rfl⟩
theorem kX1_69 : Cond.constantLong RX1 69 (8) ∈ gT := gT_in 725 (by decide +kernel) rfl
theorem sL_112 : vwCl[11]? = some (mX11_within.1.cls, TX11, 13) ∧ Cond.methodLink RL 112 mX11_within.1 ∈ gT ∧ Cond.instanceMethod mX11_within.1 ∈ gT ∧ Cond.selects mX11_within.1.cls mX11_within.1 mX11_within.1 ∈ gT := ⟨rfl, gT_in 726 (by decide +kernel) rfl, gT_in 727 (by decide +kernel) rfl, gT_in 728 (by decide +kernel) rfl⟩
theorem sX11_245 : vwCl[1]? = some (mX1_bestWithin.1.cls, TX1, 5) ∧ Cond.methodLink RX11 245 mX1_bestWithin.1 ∈ gT ∧ Cond.instanceMethod mX1_bestWithin.1 ∈ gT ∧ Cond.selects mX1_bestWithin.1.cls mX1_bestWithin.1 mX1_bestWithin.1 ∈ gT := ⟨rfl, gT_in 730 (by decide +kernel) rfl, gT_in 731 (by decide +kernel) rfl, gT_in 732 (by decide +kernel) rfl⟩
theorem sX1_96 : vwCl[1]? = some (mX1_lookAhead.1.cls, TX1, 5) ∧ Cond.methodLink RX1 96 mX1_lookAhead.1 ∈ gT ∧ Cond.instanceMethod mX1_lookAhead.1 ∈ gT ∧ Cond.selects mX1_lookAhead.1.cls mX1_lookAhead.1 mX1_lookAhead.1 ∈ gT := ⟨rfl, gT_in 734 (by decide +kernel) rfl, gT_in 659 (by decide +kernel) rfl, gT_in 660 (by decide +kernel) rfl⟩
theorem sX1_99 : vwCl[1]? = some (mX1_waitOneNight.1.cls, TX1, 5) ∧ Cond.methodLink RX1 99 mX1_waitOneNight.1 ∈ gT ∧ Cond.instanceMethod mX1_waitOneNight.1 ∈ gT ∧ Cond.selects mX1_waitOneNight.1.cls mX1_waitOneNight.1 mX1_waitOneNight.1 ∈ gT := ⟨rfl, gT_in 735 (by decide +kernel) rfl, gT_in 737 (by decide +kernel) rfl, gT_in 15 (by decide +kernel) rfl⟩
theorem sX1_102 : vwCl[1]? = some (mX1_goWhereBest.1.cls, TX1, 5) ∧ Cond.methodLink RX1 102 mX1_goWhereBest.1 ∈ gT ∧ Cond.instanceMethod mX1_goWhereBest.1 ∈ gT ∧ Cond.selects mX1_goWhereBest.1.cls mX1_goWhereBest.1 mX1_goWhereBest.1 ∈ gT := ⟨rfl, gT_in 739 (by decide +kernel) rfl, gT_in 741 (by decide +kernel) rfl, gT_in 16 (by decide +kernel) rfl⟩
theorem sX1_118 : vwCl[1]? = some (mX1_bestReached.1.cls, TX1, 5) ∧ Cond.methodLink RX1 118 mX1_bestReached.1 ∈ gT ∧ Cond.instanceMethod mX1_bestReached.1 ∈ gT ∧ Cond.selects mX1_bestReached.1.cls mX1_bestReached.1 mX1_bestReached.1 ∈ gT := ⟨rfl, gT_in 743 (by decide +kernel) rfl, gT_in 745 (by decide +kernel) rfl, gT_in 17 (by decide +kernel) rfl⟩
theorem sX1_112 : Cond.methodLink RX1 112 mJ9_max_f86c9.1 ∈ gT ∧ Cond.static mJ9_max_f86c9.1 ∈ gT := ⟨gT_in 747 (by decide +kernel) rfl, gT_in 748 (by decide +kernel) rfl⟩
theorem sX1_105 : vwCl[1]? = some (mX1_bestWait.1.cls, TX1, 5) ∧ Cond.methodLink RX1 105 mX1_bestWait.1 ∈ gT ∧ Cond.instanceMethod mX1_bestWait.1 ∈ gT ∧ Cond.selects mX1_bestWait.1.cls mX1_bestWait.1 mX1_bestWait.1 ∈ gT := ⟨rfl, gT_in 750 (by decide +kernel) rfl, gT_in 752 (by decide +kernel) rfl, gT_in 18 (by decide +kernel) rfl⟩
theorem sX1_108 : vwCl[1]? = some (mX1_valueOfWaiting.1.cls, TX1, 5) ∧ Cond.methodLink RX1 108 mX1_valueOfWaiting.1 ∈ gT ∧ Cond.instanceMethod mX1_valueOfWaiting.1 ∈ gT ∧ Cond.selects mX1_valueOfWaiting.1.cls mX1_valueOfWaiting.1 mX1_valueOfWaiting.1 ∈ gT := ⟨rfl, gT_in 754 (by decide +kernel) rfl, gT_in 756 (by decide +kernel) rfl, gT_in 19 (by decide +kernel) rfl⟩
theorem sL_117 : vwCl[11]? = some (mX11_seek.1.cls, TX11, 13) ∧ Cond.methodLink RL 117 mX11_seek.1 ∈ gT ∧ Cond.instanceMethod mX11_seek.1 ∈ gT ∧ Cond.selects mX11_seek.1.cls mX11_seek.1 mX11_seek.1 ∈ gT := ⟨rfl, gT_in 758 (by decide +kernel) rfl, gT_in 759 (by decide +kernel) rfl, gT_in 760 (by decide +kernel) rfl⟩
theorem sX11_249 : Cond.methodLink RX11 249 mX11_isInSet.1 ∈ gT ∧ Cond.static mX11_isInSet.1 ∈ gT := ⟨gT_in 762 (by decide +kernel) rfl, gT_in 502 (by decide +kernel) rfl⟩
theorem sL_121 : vwCl[11]? = some (mX11_rule.1.cls, TX11, 13) ∧ Cond.methodLink RL 121 mX11_rule.1 ∈ gT ∧ Cond.instanceMethod mX11_rule.1 ∈ gT ∧ Cond.selects mX11_rule.1.cls mX11_rule.1 mX11_rule.1 ∈ gT := ⟨rfl, gT_in 763 (by decide +kernel) rfl, gT_in 764 (by decide +kernel) rfl, gT_in 765 (by decide +kernel) rfl⟩
theorem sX11_255 : vwCl[10]? = some (mX10_addRule.1.cls, TX10, 18) ∧ Cond.methodLink RX11 255 mX10_addRule.1 ∈ gT ∧ Cond.instanceMethod mX10_addRule.1 ∈ gT ∧ Cond.selects mX10_addRule.1.cls mX10_addRule.1 mX10_addRule.1 ∈ gT := ⟨rfl, gT_in 767 (by decide +kernel) rfl, gT_in 768 (by decide +kernel) rfl, gT_in 769 (by decide +kernel) rfl⟩
theorem sL_125 : vwCl[11]? = some (mX11_ruleOf.1.cls, TX11, 13) ∧ Cond.methodLink RL 125 mX11_ruleOf.1 ∈ gT ∧ Cond.instanceMethod mX11_ruleOf.1 ∈ gT ∧ Cond.selects mX11_ruleOf.1.cls mX11_ruleOf.1 mX11_ruleOf.1 ∈ gT := ⟨rfl, gT_in 771 (by decide +kernel) rfl, gT_in 772 (by decide +kernel) rfl, gT_in 773 (by decide +kernel) rfl⟩
theorem sX11_258 : vwCl[10]? = some (mX10_hasRule.1.cls, TX10, 18) ∧ Cond.methodLink RX11 258 mX10_hasRule.1 ∈ gT ∧ Cond.instanceMethod mX10_hasRule.1 ∈ gT ∧ Cond.selects mX10_hasRule.1.cls mX10_hasRule.1 mX10_hasRule.1 ∈ gT := ⟨rfl, gT_in 775 (by decide +kernel) rfl, gT_in 776 (by decide +kernel) rfl, gT_in 777 (by decide +kernel) rfl⟩
theorem sL_129 : vwCl[11]? = some (mX11_does.1.cls, TX11, 13) ∧ Cond.methodLink RL 129 mX11_does.1 ∈ gT ∧ Cond.instanceMethod mX11_does.1 ∈ gT ∧ Cond.selects mX11_does.1.cls mX11_does.1 mX11_does.1 ∈ gT := ⟨rfl, gT_in 779 (by decide +kernel) rfl, gT_in 780 (by decide +kernel) rfl, gT_in 781 (by decide +kernel) rfl⟩
theorem sX11_267 : vwCl[11]? = some (mX11_stepBy.1.cls, TX11, 13) ∧ Cond.methodLink RX11 267 mX11_stepBy.1 ∈ gT ∧ Cond.instanceMethod mX11_stepBy.1 ∈ gT ∧ Cond.selects mX11_stepBy.1.cls mX11_stepBy.1 mX11_stepBy.1 ∈ gT := ⟨rfl, gT_in 783 (by decide +kernel) rfl, gT_in 785 (by decide +kernel) rfl, gT_in 20 (by decide +kernel) rfl⟩
theorem sX11_334 : vwCl[11]? = some (mX11_farthestSafe.1.cls, TX11, 13) ∧ Cond.methodLink RX11 334 mX11_farthestSafe.1 ∈ gT ∧ Cond.instanceMethod mX11_farthestSafe.1 ∈ gT ∧ Cond.selects mX11_farthestSafe.1.cls mX11_farthestSafe.1 mX11_farthestSafe.1 ∈ gT := ⟨rfl, gT_in 787 (by decide +kernel) rfl, gT_in 789 (by decide +kernel) rfl, gT_in 21 (by decide +kernel) rfl⟩
theorem sX11_337 : vwCl[10]? = some (mX10_firstStep.1.cls, TX10, 18) ∧ Cond.methodLink RX11 337 mX10_firstStep.1 ∈ gT ∧ Cond.instanceMethod mX10_firstStep.1 ∈ gT ∧ Cond.selects mX10_firstStep.1.cls mX10_firstStep.1 mX10_firstStep.1 ∈ gT := ⟨rfl, gT_in 791 (by decide +kernel) rfl, gT_in 792 (by decide +kernel) rfl, gT_in 793 (by decide +kernel) rfl⟩
theorem sX10_146 : vwCl[10]? = some (mX10_distance.1.cls, TX10, 18) ∧ Cond.methodLink RX10 146 mX10_distance.1 ∈ gT ∧ Cond.instanceMethod mX10_distance.1 ∈ gT ∧ Cond.selects mX10_distance.1.cls mX10_distance.1 mX10_distance.1 ∈ gT := ⟨rfl, gT_in 795 (by decide +kernel) rfl, gT_in 635 (by decide +kernel) rfl, gT_in 636 (by decide +kernel) rfl⟩
theorem sL_133 : vwCl[11]? = some (mX11_goes.1.cls, TX11, 13) ∧ Cond.methodLink RL 133 mX11_goes.1 ∈ gT ∧ Cond.instanceMethod mX11_goes.1 ∈ gT ∧ Cond.selects mX11_goes.1.cls mX11_goes.1 mX11_goes.1 ∈ gT := ⟨rfl, gT_in 796 (by decide +kernel) rfl, gT_in 797 (by decide +kernel) rfl, gT_in 798 (by decide +kernel) rfl⟩
theorem sL_137 : vwCl[11]? = some (mX11_prove.1.cls, TX11, 13) ∧ Cond.methodLink RL 137 mX11_prove.1 ∈ gT ∧ Cond.instanceMethod mX11_prove.1 ∈ gT ∧ Cond.selects mX11_prove.1.cls mX11_prove.1 mX11_prove.1 ∈ gT := ⟨rfl, gT_in 800 (by decide +kernel) rfl, gT_in 801 (by decide +kernel) rfl, gT_in 802 (by decide +kernel) rfl⟩
theorem sX11_270 : vwCl[10]? = some (mX10_nearFirstClearing.1.cls, TX10, 18) ∧ Cond.methodLink RX11 270 mX10_nearFirstClearing.1 ∈ gT ∧ Cond.instanceMethod mX10_nearFirstClearing.1 ∈ gT ∧ Cond.selects mX10_nearFirstClearing.1.cls mX10_nearFirstClearing.1 mX10_nearFirstClearing.1 ∈ gT := ⟨rfl, gT_in 804 (by decide +kernel) rfl, gT_in 805 (by decide +kernel) rfl, gT_in 806 (by decide +kernel) rfl⟩
theorem sX10_138 : vwCl[10]? = some (mX10_reachFrom.1.cls, TX10, 18) ∧ Cond.methodLink RX10 138 mX10_reachFrom.1 ∈ gT ∧ Cond.instanceMethod mX10_reachFrom.1 ∈ gT ∧ Cond.selects mX10_reachFrom.1.cls mX10_reachFrom.1 mX10_reachFrom.1 ∈ gT := ⟨rfl, gT_in 808 (by decide +kernel) rfl, gT_in 647 (by decide +kernel) rfl, gT_in 648 (by decide +kernel) rfl⟩
theorem sX10_141 : Cond.methodLink RX10 141 mJ6_bitCount_0f7a4.1 ∈ gT ∧ Cond.static mJ6_bitCount_0f7a4.1 ∈ gT := ⟨gT_in 809 (by decide +kernel) rfl, gT_in 582 (by decide +kernel) rfl⟩
theorem sL_141 : vwCl[11]? = some (mX11_row.1.cls, TX11, 13) ∧ Cond.methodLink RL 141 mX11_row.1 ∈ gT ∧ Cond.instanceMethod mX11_row.1 ∈ gT ∧ Cond.selects mX11_row.1.cls mX11_row.1 mX11_row.1 ∈ gT := ⟨rfl, gT_in 810 (by decide +kernel) rfl, gT_in 811 (by decide +kernel) rfl, gT_in 812 (by decide +kernel) rfl⟩
theorem sL_145 : vwCl[11]? = some (mX11_alterRow.1.cls, TX11, 13) ∧ Cond.methodLink RL 145 mX11_alterRow.1 ∈ gT ∧ Cond.instanceMethod mX11_alterRow.1 ∈ gT ∧ Cond.selects mX11_alterRow.1.cls mX11_alterRow.1 mX11_alterRow.1 ∈ gT := ⟨rfl, gT_in 814 (by decide +kernel) rfl, gT_in 815 (by decide +kernel) rfl, gT_in 816 (by decide +kernel) rfl⟩
theorem sL_149 : vwCl[11]? = some (mX11_judge.1.cls, TX11, 13) ∧ Cond.methodLink RL 149 mX11_judge.1 ∈ gT ∧ Cond.instanceMethod mX11_judge.1 ∈ gT ∧ Cond.selects mX11_judge.1.cls mX11_judge.1 mX11_judge.1 ∈ gT := ⟨rfl, gT_in 818 (by decide +kernel) rfl, gT_in 819 (by decide +kernel) rfl, gT_in 820 (by decide +kernel) rfl⟩
theorem sL_153 : vwCl[11]? = some (mX11_lays.1.cls, TX11, 13) ∧ Cond.methodLink RL 153 mX11_lays.1 ∈ gT ∧ Cond.instanceMethod mX11_lays.1 ∈ gT ∧ Cond.selects mX11_lays.1.cls mX11_lays.1 mX11_lays.1 ∈ gT := ⟨rfl, gT_in 822 (by decide +kernel) rfl, gT_in 823 (by decide +kernel) rfl, gT_in 824 (by decide +kernel) rfl⟩
theorem sX11_280 : Cond.methodLink RX11 280 mJ9_min_7cf53.1 ∈ gT ∧ Cond.static mJ9_min_7cf53.1 ∈ gT := ⟨gT_in 826 (by decide +kernel) rfl, gT_in 509 (by decide +kernel) rfl⟩
theorem kX11_285 : Cond.constantLong RX11 285 (8) ∈ gT := gT_in 827 (by decide +kernel) rfl
theorem sX11_287 : Cond.methodLink RX11 287 mJ9_min_f86c9.1 ∈ gT ∧ Cond.static mJ9_min_f86c9.1 ∈ gT := ⟨gT_in 828 (by decide +kernel) rfl, gT_in 829 (by decide +kernel) rfl⟩
theorem sX11_290 : Cond.methodLink RX11 290 mJ9_max_f86c9.1 ∈ gT ∧ Cond.static mJ9_max_f86c9.1 ∈ gT := ⟨gT_in 831 (by decide +kernel) rfl, gT_in 748 (by decide +kernel) rfl⟩
theorem sL_157 : vwCl[11]? = some (mX11_sheet.1.cls, TX11, 13) ∧ Cond.methodLink RL 157 mX11_sheet.1 ∈ gT ∧ Cond.instanceMethod mX11_sheet.1 ∈ gT ∧ Cond.selects mX11_sheet.1.cls mX11_sheet.1 mX11_sheet.1 ∈ gT := ⟨rfl, gT_in 832 (by decide +kernel) rfl, gT_in 833 (by decide +kernel) rfl, gT_in 834 (by decide +kernel) rfl⟩
theorem sX11_293 : mX5_init.1.name = "<init>" ∧ Cond.methodLink RX11 293 mX5_init.1 ∈ gT ∧ Cond.instanceMethod mX5_init.1 ∈ gT := ⟨rfl, gT_in 837 (by decide +kernel) rfl, gT_in 838 (by decide +kernel) rfl⟩
theorem fX5_9 : gFd RX5 9 5 0 true .int := ⟨RX5, TX5, 2, "HeldPaths$Strip", tyX5, rfl, by decide, iX5, gT_in 841 (by decide +kernel) rfl, Or.inl rfl, tyX5_ok, nmX5, rfl, tyX5_ok 0 (by decide), fun _ => rfl⟩
theorem fX11_273 : gFdR RX11 273 5 0 .int := ⟨RX5, TX5, 2, "HeldPaths$Strip", rfl, by decide, iX5, gT_in 842 (by decide +kernel) rfl, Or.inl rfl⟩
theorem fX5_15 : gFd RX5 15 5 1 true (.array .long) := ⟨RX5, TX5, 2, "HeldPaths$Strip", tyX5, rfl, by decide, iX5, gT_in 843 (by decide +kernel) rfl, Or.inl rfl, tyX5_ok, nmX5, rfl, tyX5_ok 1 (by decide), fun _ => rfl⟩
theorem fX11_276 : gFdR RX11 276 5 1 (.array .long) := ⟨RX5, TX5, 2, "HeldPaths$Strip", rfl, by decide, iX5, gT_in 844 (by decide +kernel) rfl, Or.inl rfl⟩
theorem sL_161 : vwCl[11]? = some (mX11_write.1.cls, TX11, 13) ∧ Cond.methodLink RL 161 mX11_write.1 ∈ gT ∧ Cond.instanceMethod mX11_write.1 ∈ gT ∧ Cond.selects mX11_write.1.cls mX11_write.1 mX11_write.1 ∈ gT := ⟨rfl, gT_in 850 (by decide +kernel) rfl, gT_in 851 (by decide +kernel) rfl, gT_in 852 (by decide +kernel) rfl⟩
theorem sX11_295 : vwCl[5]? = some (mX5_narrowed.1.cls, TX5, 2) ∧ Cond.methodLink RX11 295 mX5_narrowed.1 ∈ gT ∧ Cond.instanceMethod mX5_narrowed.1 ∈ gT ∧ Cond.selects mX5_narrowed.1.cls mX5_narrowed.1 mX5_narrowed.1 ∈ gT := ⟨rfl, gT_in 854 (by decide +kernel) rfl, gT_in 855 (by decide +kernel) rfl, gT_in 856 (by decide +kernel) rfl⟩
theorem sL_165 : vwCl[11]? = some (mX11_item.1.cls, TX11, 13) ∧ Cond.methodLink RL 165 mX11_item.1 ∈ gT ∧ Cond.instanceMethod mX11_item.1 ∈ gT ∧ Cond.selects mX11_item.1.cls mX11_item.1 mX11_item.1 ∈ gT := ⟨rfl, gT_in 858 (by decide +kernel) rfl, gT_in 859 (by decide +kernel) rfl, gT_in 860 (by decide +kernel) rfl⟩
theorem sL_169 : vwCl[11]? = some (mX11_shelf.1.cls, TX11, 13) ∧ Cond.methodLink RL 169 mX11_shelf.1 ∈ gT ∧ Cond.instanceMethod mX11_shelf.1 ∈ gT ∧ Cond.selects mX11_shelf.1.cls mX11_shelf.1 mX11_shelf.1 ∈ gT := ⟨rfl, gT_in 862 (by decide +kernel) rfl, gT_in 863 (by decide +kernel) rfl, gT_in 864 (by decide +kernel) rfl⟩
theorem sL_173 : vwCl[11]? = some (mX11_taken.1.cls, TX11, 13) ∧ Cond.methodLink RL 173 mX11_taken.1 ∈ gT ∧ Cond.instanceMethod mX11_taken.1 ∈ gT ∧ Cond.selects mX11_taken.1.cls mX11_taken.1 mX11_taken.1 ∈ gT := ⟨rfl, gT_in 866 (by decide +kernel) rfl, gT_in 867 (by decide +kernel) rfl, gT_in 868 (by decide +kernel) rfl⟩
theorem sX11_299 : Cond.methodLink RX11 299 mX11_isOfKind.1 ∈ gT ∧ Cond.static mX11_isOfKind.1 ∈ gT := ⟨gT_in 870 (by decide +kernel) rfl, gT_in 871 (by decide +kernel) rfl⟩
theorem sL_177 : vwCl[11]? = some (mX11_act.1.cls, TX11, 13) ∧ Cond.methodLink RL 177 mX11_act.1 ∈ gT ∧ Cond.instanceMethod mX11_act.1 ∈ gT ∧ Cond.selects mX11_act.1.cls mX11_act.1 mX11_act.1 ∈ gT := ⟨rfl, gT_in 873 (by decide +kernel) rfl, gT_in 874 (by decide +kernel) rfl, gT_in 875 (by decide +kernel) rfl⟩
theorem sX11_302 : vwCl[7]? = some (mX7_clear.1.cls, TX7, 3) ∧ Cond.methodLink RX11 302 mX7_clear.1 ∈ gT ∧ Cond.instanceMethod mX7_clear.1 ∈ gT ∧ Cond.selects mX7_clear.1.cls mX7_clear.1 mX7_clear.1 ∈ gT := ⟨rfl, gT_in 877 (by decide +kernel) rfl, gT_in 878 (by decide +kernel) rfl, gT_in 879 (by decide +kernel) rfl⟩
theorem sX11_303 : vwCl[11]? = some (mX11_thingOf.1.cls, TX11, 13) ∧ Cond.methodLink RX11 303 mX11_thingOf.1 ∈ gT ∧ Cond.instanceMethod mX11_thingOf.1 ∈ gT ∧ Cond.selects mX11_thingOf.1.cls mX11_thingOf.1 mX11_thingOf.1 ∈ gT := ⟨rfl, gT_in 881 (by decide +kernel) rfl, gT_in 883 (by decide +kernel) rfl, gT_in 22 (by decide +kernel) rfl⟩
theorem nX11_340 : gNw RX11 340 8 3 := ⟨RX8, TX8, tyX8, rfl, iX8, tyX8_ok, gT_in 885 (by decide +kernel) rfl, gT_in 886 (by decide +kernel) rfl, gT_in 97 (by decide +kernel) rfl⟩
theorem sX11_342 : mX8_init.1.name = "<init>" ∧ Cond.methodLink RX11 342 mX8_init.1 ∈ gT ∧ Cond.instanceMethod mX8_init.1 ∈ gT := ⟨rfl, gT_in 887 (by decide +kernel) rfl, gT_in 888 (by decide +kernel) rfl⟩
theorem sX8_1 : mX3_init.1.name = "<init>" ∧ Cond.methodLink RX8 1 mX3_init.1 ∈ gT ∧ Cond.instanceMethod mX3_init.1 ∈ gT := ⟨rfl, gT_in 890 (by decide +kernel) rfl, gT_in 891 (by decide +kernel) rfl⟩
theorem fX3_7_3 : gFd RX3 7 3 0 true .int := ⟨RX3, TX3, 3, "HeldPaths$PathThing", tyX3, rfl, by decide, iX3, gT_in 894 (by decide +kernel) rfl, Or.inl rfl, tyX3_ok, nmX3, rfl, tyX3_ok 0 (by decide), fun _ => rfl⟩
theorem fX3_7_8 : gFd RX3 7 8 0 true .int := ⟨RX8, TX8, 3, "HeldPaths$PathThing", tyX8, rfl, by decide, iX8, gT_in 894 (by decide +kernel) rfl, Or.inl rfl, tyX8_ok, nmX8, rfl, tyX8_ok 0 (by decide), fun _ => rfl⟩
theorem fX3_7_9 : gFd RX3 7 9 0 true .int := ⟨RX9, TX9, 3, "HeldPaths$PathThing", tyX9, rfl, by decide, iX9, gT_in 894 (by decide +kernel) rfl, Or.inl rfl, tyX9_ok, nmX9, rfl, tyX9_ok 0 (by decide), fun _ => rfl⟩
theorem fX3_7_2 : gFd RX3 7 2 0 true .int := ⟨RX2, TX2, 3, "HeldPaths$PathThing", tyX2, rfl, by decide, iX2, gT_in 894 (by decide +kernel) rfl, Or.inl rfl, tyX2_ok, nmX2, rfl, tyX2_ok 0 (by decide), fun _ => rfl⟩
theorem fX3_7_0 : gFd RX3 7 0 0 true .int := ⟨RX0, TX0, 3, "HeldPaths$PathThing", tyX0, rfl, by decide, iX0, gT_in 894 (by decide +kernel) rfl, Or.inl rfl, tyX0_ok, nmX0, rfl, tyX0_ok 0 (by decide), fun _ => rfl⟩
theorem fX3_7_4 : gFd RX3 7 4 0 true .int := ⟨RX4, TX4, 3, "HeldPaths$PathThing", tyX4, rfl, by decide, iX4, gT_in 894 (by decide +kernel) rfl, Or.inl rfl, tyX4_ok, nmX4, rfl, tyX4_ok 0 (by decide), fun _ => rfl⟩
theorem fX0_26 : gFdR RX0 26 0 0 .int := ⟨RX0, TX0, 3, "HeldPaths$BogThing", rfl, by decide, iX0, gT_in 895 (by decide +kernel) rfl, Or.inr (gT_in 896 (by decide +kernel) rfl)⟩
theorem fX2_26 : gFdR RX2 26 2 0 .int := ⟨RX2, TX2, 3, "HeldPaths$DeerThing", rfl, by decide, iX2, gT_in 897 (by decide +kernel) rfl, Or.inr (gT_in 898 (by decide +kernel) rfl)⟩
theorem fX9_26 : gFdR RX9 26 9 0 .int := ⟨RX9, TX9, 3, "HeldPaths$WallThing", rfl, by decide, iX9, gT_in 899 (by decide +kernel) rfl, Or.inr (gT_in 900 (by decide +kernel) rfl)⟩
theorem fX3_13_3 : gFd RX3 13 3 1 true .int := ⟨RX3, TX3, 3, "HeldPaths$PathThing", tyX3, rfl, by decide, iX3, gT_in 901 (by decide +kernel) rfl, Or.inl rfl, tyX3_ok, nmX3, rfl, tyX3_ok 1 (by decide), fun _ => rfl⟩
theorem fX3_13_8 : gFd RX3 13 8 1 true .int := ⟨RX8, TX8, 3, "HeldPaths$PathThing", tyX8, rfl, by decide, iX8, gT_in 901 (by decide +kernel) rfl, Or.inl rfl, tyX8_ok, nmX8, rfl, tyX8_ok 1 (by decide), fun _ => rfl⟩
theorem fX3_13_9 : gFd RX3 13 9 1 true .int := ⟨RX9, TX9, 3, "HeldPaths$PathThing", tyX9, rfl, by decide, iX9, gT_in 901 (by decide +kernel) rfl, Or.inl rfl, tyX9_ok, nmX9, rfl, tyX9_ok 1 (by decide), fun _ => rfl⟩
theorem fX3_13_2 : gFd RX3 13 2 1 true .int := ⟨RX2, TX2, 3, "HeldPaths$PathThing", tyX2, rfl, by decide, iX2, gT_in 901 (by decide +kernel) rfl, Or.inl rfl, tyX2_ok, nmX2, rfl, tyX2_ok 1 (by decide), fun _ => rfl⟩
theorem fX3_13_0 : gFd RX3 13 0 1 true .int := ⟨RX0, TX0, 3, "HeldPaths$PathThing", tyX0, rfl, by decide, iX0, gT_in 901 (by decide +kernel) rfl, Or.inl rfl, tyX0_ok, nmX0, rfl, tyX0_ok 1 (by decide), fun _ => rfl⟩
theorem fX3_13_4 : gFd RX3 13 4 1 true .int := ⟨RX4, TX4, 3, "HeldPaths$PathThing", tyX4, rfl, by decide, iX4, gT_in 901 (by decide +kernel) rfl, Or.inl rfl, tyX4_ok, nmX4, rfl, tyX4_ok 1 (by decide), fun _ => rfl⟩
theorem fX8_23_8 : gFdR RX8 23 8 1 .int := ⟨RX8, TX8, 3, "HeldPaths$TrackThing", rfl, by decide, iX8, gT_in 902 (by decide +kernel) rfl, Or.inr (gT_in 903 (by decide +kernel) rfl)⟩
theorem fX8_23_2 : gFdR RX8 23 2 1 .int := ⟨RX2, TX2, 3, "HeldPaths$TrackThing", rfl, by decide, iX2, gT_in 902 (by decide +kernel) rfl, Or.inr (gT_in 903 (by decide +kernel) rfl)⟩
theorem fX8_23_0 : gFdR RX8 23 0 1 .int := ⟨RX0, TX0, 3, "HeldPaths$TrackThing", rfl, by decide, iX0, gT_in 902 (by decide +kernel) rfl, Or.inr (gT_in 903 (by decide +kernel) rfl)⟩
theorem fX4_26 : gFdR RX4 26 4 1 .int := ⟨RX4, TX4, 3, "HeldPaths$RideThing", rfl, by decide, iX4, gT_in 904 (by decide +kernel) rfl, Or.inr (gT_in 905 (by decide +kernel) rfl)⟩
theorem fX3_16_3 : gFd RX3 16 3 2 true (.object "HeldPaths$Trace") := ⟨RX3, TX3, 3, "HeldPaths$PathThing", tyX3, rfl, by decide, iX3, gT_in 906 (by decide +kernel) rfl, Or.inl rfl, tyX3_ok, nmX3, rfl, tyX3_ok 2 (by decide), fun _ => rfl⟩
theorem fX3_16_8 : gFd RX3 16 8 2 true (.object "HeldPaths$Trace") := ⟨RX8, TX8, 3, "HeldPaths$PathThing", tyX8, rfl, by decide, iX8, gT_in 906 (by decide +kernel) rfl, Or.inl rfl, tyX8_ok, nmX8, rfl, tyX8_ok 2 (by decide), fun _ => rfl⟩
theorem fX3_16_9 : gFd RX3 16 9 2 true (.object "HeldPaths$Trace") := ⟨RX9, TX9, 3, "HeldPaths$PathThing", tyX9, rfl, by decide, iX9, gT_in 906 (by decide +kernel) rfl, Or.inl rfl, tyX9_ok, nmX9, rfl, tyX9_ok 2 (by decide), fun _ => rfl⟩
theorem fX3_16_2 : gFd RX3 16 2 2 true (.object "HeldPaths$Trace") := ⟨RX2, TX2, 3, "HeldPaths$PathThing", tyX2, rfl, by decide, iX2, gT_in 906 (by decide +kernel) rfl, Or.inl rfl, tyX2_ok, nmX2, rfl, tyX2_ok 2 (by decide), fun _ => rfl⟩
theorem fX3_16_0 : gFd RX3 16 0 2 true (.object "HeldPaths$Trace") := ⟨RX0, TX0, 3, "HeldPaths$PathThing", tyX0, rfl, by decide, iX0, gT_in 906 (by decide +kernel) rfl, Or.inl rfl, tyX0_ok, nmX0, rfl, tyX0_ok 2 (by decide), fun _ => rfl⟩
theorem fX3_16_4 : gFd RX3 16 4 2 true (.object "HeldPaths$Trace") := ⟨RX4, TX4, 3, "HeldPaths$PathThing", tyX4, rfl, by decide, iX4, gT_in 906 (by decide +kernel) rfl, Or.inl rfl, tyX4_ok, nmX4, rfl, tyX4_ok 2 (by decide), fun _ => rfl⟩
theorem fX2_7 : gFdR RX2 7 2 2 (.object "HeldPaths$Trace") := ⟨RX2, TX2, 3, "HeldPaths$DeerThing", rfl, by decide, iX2, gT_in 907 (by decide +kernel) rfl, Or.inr (gT_in 908 (by decide +kernel) rfl)⟩
theorem fX9_7 : gFdR RX9 7 9 2 (.object "HeldPaths$Trace") := ⟨RX9, TX9, 3, "HeldPaths$WallThing", rfl, by decide, iX9, gT_in 909 (by decide +kernel) rfl, Or.inr (gT_in 910 (by decide +kernel) rfl)⟩
theorem fX8_7_8 : gFdR RX8 7 8 2 (.object "HeldPaths$Trace") := ⟨RX8, TX8, 3, "HeldPaths$TrackThing", rfl, by decide, iX8, gT_in 911 (by decide +kernel) rfl, Or.inr (gT_in 912 (by decide +kernel) rfl)⟩
theorem fX8_7_2 : gFdR RX8 7 2 2 (.object "HeldPaths$Trace") := ⟨RX2, TX2, 3, "HeldPaths$TrackThing", rfl, by decide, iX2, gT_in 911 (by decide +kernel) rfl, Or.inr (gT_in 912 (by decide +kernel) rfl)⟩
theorem fX8_7_0 : gFdR RX8 7 0 2 (.object "HeldPaths$Trace") := ⟨RX0, TX0, 3, "HeldPaths$TrackThing", rfl, by decide, iX0, gT_in 911 (by decide +kernel) rfl, Or.inr (gT_in 912 (by decide +kernel) rfl)⟩
theorem fX0_7 : gFdR RX0 7 0 2 (.object "HeldPaths$Trace") := ⟨RX0, TX0, 3, "HeldPaths$BogThing", rfl, by decide, iX0, gT_in 913 (by decide +kernel) rfl, Or.inr (gT_in 914 (by decide +kernel) rfl)⟩
theorem fX4_7 : gFdR RX4 7 4 2 (.object "HeldPaths$Trace") := ⟨RX4, TX4, 3, "HeldPaths$RideThing", rfl, by decide, iX4, gT_in 915 (by decide +kernel) rfl, Or.inr (gT_in 916 (by decide +kernel) rfl)⟩
theorem nX11_345 : gNw RX11 345 9 3 := ⟨RX9, TX9, tyX9, rfl, iX9, tyX9_ok, gT_in 924 (by decide +kernel) rfl, gT_in 925 (by decide +kernel) rfl, gT_in 98 (by decide +kernel) rfl⟩
theorem sX11_347 : mX9_init.1.name = "<init>" ∧ Cond.methodLink RX11 347 mX9_init.1 ∈ gT ∧ Cond.instanceMethod mX9_init.1 ∈ gT := ⟨rfl, gT_in 926 (by decide +kernel) rfl, gT_in 927 (by decide +kernel) rfl⟩
theorem sX9_1 : mX3_init.1.name = "<init>" ∧ Cond.methodLink RX9 1 mX3_init.1 ∈ gT ∧ Cond.instanceMethod mX3_init.1 ∈ gT := ⟨rfl, gT_in 929 (by decide +kernel) rfl, gT_in 891 (by decide +kernel) rfl⟩
theorem nX11_348 : gNw RX11 348 2 3 := ⟨RX2, TX2, tyX2, rfl, iX2, tyX2_ok, gT_in 934 (by decide +kernel) rfl, gT_in 935 (by decide +kernel) rfl, gT_in 99 (by decide +kernel) rfl⟩
theorem sX11_350 : mX2_init.1.name = "<init>" ∧ Cond.methodLink RX11 350 mX2_init.1 ∈ gT ∧ Cond.instanceMethod mX2_init.1 ∈ gT := ⟨rfl, gT_in 936 (by decide +kernel) rfl, gT_in 937 (by decide +kernel) rfl⟩
theorem sX2_1 : mX8_init.1.name = "<init>" ∧ Cond.methodLink RX2 1 mX8_init.1 ∈ gT ∧ Cond.instanceMethod mX8_init.1 ∈ gT := ⟨rfl, gT_in 939 (by decide +kernel) rfl, gT_in 888 (by decide +kernel) rfl⟩
theorem nX11_351 : gNw RX11 351 0 3 := ⟨RX0, TX0, tyX0, rfl, iX0, tyX0_ok, gT_in 944 (by decide +kernel) rfl, gT_in 945 (by decide +kernel) rfl, gT_in 100 (by decide +kernel) rfl⟩
theorem sX11_353 : mX0_init.1.name = "<init>" ∧ Cond.methodLink RX11 353 mX0_init.1 ∈ gT ∧ Cond.instanceMethod mX0_init.1 ∈ gT := ⟨rfl, gT_in 946 (by decide +kernel) rfl, gT_in 947 (by decide +kernel) rfl⟩
theorem sX0_1 : mX8_init.1.name = "<init>" ∧ Cond.methodLink RX0 1 mX8_init.1 ∈ gT ∧ Cond.instanceMethod mX8_init.1 ∈ gT := ⟨rfl, gT_in 949 (by decide +kernel) rfl, gT_in 888 (by decide +kernel) rfl⟩
theorem nX11_354 : gNw RX11 354 4 3 := ⟨RX4, TX4, tyX4, rfl, iX4, tyX4_ok, gT_in 954 (by decide +kernel) rfl, gT_in 955 (by decide +kernel) rfl, gT_in 101 (by decide +kernel) rfl⟩
theorem sX11_356 : mX4_init.1.name = "<init>" ∧ Cond.methodLink RX11 356 mX4_init.1 ∈ gT ∧ Cond.instanceMethod mX4_init.1 ∈ gT := ⟨rfl, gT_in 956 (by decide +kernel) rfl, gT_in 957 (by decide +kernel) rfl⟩
theorem sX4_1 : mX3_init.1.name = "<init>" ∧ Cond.methodLink RX4 1 mX3_init.1 ∈ gT ∧ Cond.instanceMethod mX3_init.1 ∈ gT := ⟨rfl, gT_in 959 (by decide +kernel) rfl, gT_in 891 (by decide +kernel) rfl⟩
theorem nX11_308 : gNw RX11 308 3 3 := ⟨RX3, TX3, tyX3, rfl, iX3, tyX3_ok, gT_in 964 (by decide +kernel) rfl, gT_in 965 (by decide +kernel) rfl, gT_in 96 (by decide +kernel) rfl⟩
theorem sX11_357 : mX3_init.1.name = "<init>" ∧ Cond.methodLink RX11 357 mX3_init.1 ∈ gT ∧ Cond.instanceMethod mX3_init.1 ∈ gT := ⟨rfl, gT_in 966 (by decide +kernel) rfl, gT_in 891 (by decide +kernel) rfl⟩
theorem sX11_307 : vwCl[3]? = some (mX3_leads.1.cls, TX3, 3) ∧ Cond.methodLink RX11 307 mX3_leads.1 ∈ gT ∧ Cond.instanceMethod mX3_leads.1 ∈ gT ∧ Cond.selects mX3_leads.1.cls mX3_leads.1 mX3_leads.1 ∈ gT := ⟨rfl, gT_in 971 (by decide +kernel) rfl, gT_in 972 (by decide +kernel) rfl, gT_in 973 (by decide +kernel) rfl⟩
theorem sX0_13 : vwCl[7]? = some (mX7_begin.1.cls, TX7, 3) ∧ Cond.methodLink RX0 13 mX7_begin.1 ∈ gT ∧ Cond.instanceMethod mX7_begin.1 ∈ gT ∧ Cond.selects mX7_begin.1.cls mX7_begin.1 mX7_begin.1 ∈ gT := ⟨rfl, gT_in 978 (by decide +kernel) rfl, gT_in 979 (by decide +kernel) rfl, gT_in 980 (by decide +kernel) rfl⟩
theorem sX2_13 : vwCl[7]? = some (mX7_begin.1.cls, TX7, 3) ∧ Cond.methodLink RX2 13 mX7_begin.1 ∈ gT ∧ Cond.instanceMethod mX7_begin.1 ∈ gT ∧ Cond.selects mX7_begin.1.cls mX7_begin.1 mX7_begin.1 ∈ gT := ⟨rfl, gT_in 988 (by decide +kernel) rfl, gT_in 979 (by decide +kernel) rfl, gT_in 980 (by decide +kernel) rfl⟩
theorem sX9_13 : vwCl[7]? = some (mX7_begin.1.cls, TX7, 3) ∧ Cond.methodLink RX9 13 mX7_begin.1 ∈ gT ∧ Cond.instanceMethod mX7_begin.1 ∈ gT ∧ Cond.selects mX7_begin.1.cls mX7_begin.1 mX7_begin.1 ∈ gT := ⟨rfl, gT_in 995 (by decide +kernel) rfl, gT_in 979 (by decide +kernel) rfl, gT_in 980 (by decide +kernel) rfl⟩
theorem sX9_19 : vwCl[3]? = some (mX3_leads.1.cls, TX3, 3) ∧ Cond.methodLink RX9 19 mX3_leads.1 ∈ gT ∧ Cond.instanceMethod mX3_leads.1 ∈ gT ∧ Cond.selects mX3_leads.1.cls mX3_leads.1 mX3_leads.1 ∈ gT := ⟨rfl, gT_in 996 (by decide +kernel) rfl, gT_in 972 (by decide +kernel) rfl, gT_in 973 (by decide +kernel) rfl⟩
theorem sX3_20 : vwCl[7]? = some (mX7_begin.1.cls, TX7, 3) ∧ Cond.methodLink RX3 20 mX7_begin.1 ∈ gT ∧ Cond.instanceMethod mX7_begin.1 ∈ gT ∧ Cond.selects mX7_begin.1.cls mX7_begin.1 mX7_begin.1 ∈ gT := ⟨rfl, gT_in 998 (by decide +kernel) rfl, gT_in 979 (by decide +kernel) rfl, gT_in 980 (by decide +kernel) rfl⟩
theorem sX11_312 : vwCl[3]? = some (mX3_stays.1.cls, TX3, 3) ∧ Cond.methodLink RX11 312 mX3_stays.1 ∈ gT ∧ Cond.instanceMethod mX3_stays.1 ∈ gT ∧ Cond.selects mX3_stays.1.cls mX3_stays.1 mX3_stays.1 ∈ gT := ⟨rfl, gT_in 999 (by decide +kernel) rfl, gT_in 1000 (by decide +kernel) rfl, gT_in 1001 (by decide +kernel) rfl⟩
theorem sX8_13 : vwCl[7]? = some (mX7_begin.1.cls, TX7, 3) ∧ Cond.methodLink RX8 13 mX7_begin.1 ∈ gT ∧ Cond.instanceMethod mX7_begin.1 ∈ gT ∧ Cond.selects mX7_begin.1.cls mX7_begin.1 mX7_begin.1 ∈ gT := ⟨rfl, gT_in 1006 (by decide +kernel) rfl, gT_in 979 (by decide +kernel) rfl, gT_in 980 (by decide +kernel) rfl⟩
theorem sX8_19 : vwCl[3]? = some (mX3_stays.1.cls, TX3, 3) ∧ Cond.methodLink RX8 19 mX3_stays.1 ∈ gT ∧ Cond.instanceMethod mX3_stays.1 ∈ gT ∧ Cond.selects mX3_stays.1.cls mX3_stays.1 mX3_stays.1 ∈ gT := ⟨rfl, gT_in 1007 (by decide +kernel) rfl, gT_in 1000 (by decide +kernel) rfl, gT_in 1001 (by decide +kernel) rfl⟩
theorem sX2_30 : vwCl[2]? = some (mX2_leads.1.cls, TX2, 3) ∧ Cond.methodLink RX2 30 mX2_leads.1 ∈ gT ∧ Cond.instanceMethod mX2_leads.1 ∈ gT ∧ Cond.selects mX2_leads.1.cls mX2_leads.1 mX2_leads.1 ∈ gT := ⟨rfl, gT_in 1012 (by decide +kernel) rfl, gT_in 986 (by decide +kernel) rfl, gT_in 1700 (by decide +kernel) rfl⟩
theorem sX3_26 : vwCl[3]? = some (mX3_leads.1.cls, TX3, 3) ∧ Cond.methodLink RX3 26 mX3_leads.1 ∈ gT ∧ Cond.instanceMethod mX3_leads.1 ∈ gT ∧ Cond.selects mX3_leads.1.cls mX3_leads.1 mX3_leads.1 ∈ gT := ⟨rfl, gT_in 1017 (by decide +kernel) rfl, gT_in 972 (by decide +kernel) rfl, gT_in 973 (by decide +kernel) rfl⟩
theorem sX11_315 : vwCl[3]? = some (mX3_shares.1.cls, TX3, 3) ∧ Cond.methodLink RX11 315 mX3_shares.1 ∈ gT ∧ Cond.instanceMethod mX3_shares.1 ∈ gT ∧ Cond.selects mX3_shares.1.cls mX3_shares.1 mX3_shares.1 ∈ gT := ⟨rfl, gT_in 1018 (by decide +kernel) rfl, gT_in 1019 (by decide +kernel) rfl, gT_in 1020 (by decide +kernel) rfl⟩
theorem sX4_13 : vwCl[7]? = some (mX7_begin.1.cls, TX7, 3) ∧ Cond.methodLink RX4 13 mX7_begin.1 ∈ gT ∧ Cond.instanceMethod mX7_begin.1 ∈ gT ∧ Cond.selects mX7_begin.1.cls mX7_begin.1 mX7_begin.1 ∈ gT := ⟨rfl, gT_in 1032 (by decide +kernel) rfl, gT_in 979 (by decide +kernel) rfl, gT_in 980 (by decide +kernel) rfl⟩
theorem sX4_23 : vwCl[3]? = some (mX3_shares.1.cls, TX3, 3) ∧ Cond.methodLink RX4 23 mX3_shares.1 ∈ gT ∧ Cond.instanceMethod mX3_shares.1 ∈ gT ∧ Cond.selects mX3_shares.1.cls mX3_shares.1 mX3_shares.1 ∈ gT := ⟨rfl, gT_in 1033 (by decide +kernel) rfl, gT_in 1019 (by decide +kernel) rfl, gT_in 1020 (by decide +kernel) rfl⟩
theorem sX11_318 : vwCl[3]? = some (mX3_tells.1.cls, TX3, 3) ∧ Cond.methodLink RX11 318 mX3_tells.1 ∈ gT ∧ Cond.instanceMethod mX3_tells.1 ∈ gT ∧ Cond.selects mX3_tells.1.cls mX3_tells.1 mX3_tells.1 ∈ gT := ⟨rfl, gT_in 1040 (by decide +kernel) rfl, gT_in 1041 (by decide +kernel) rfl, gT_in 1042 (by decide +kernel) rfl⟩
theorem sX4_19 : vwCl[3]? = some (mX3_tells.1.cls, TX3, 3) ∧ Cond.methodLink RX4 19 mX3_tells.1 ∈ gT ∧ Cond.instanceMethod mX3_tells.1 ∈ gT ∧ Cond.selects mX3_tells.1.cls mX3_tells.1 mX3_tells.1 ∈ gT := ⟨rfl, gT_in 1049 (by decide +kernel) rfl, gT_in 1041 (by decide +kernel) rfl, gT_in 1042 (by decide +kernel) rfl⟩
theorem sX9_23 : vwCl[3]? = some (mX3_tells.1.cls, TX3, 3) ∧ Cond.methodLink RX9 23 mX3_tells.1 ∈ gT ∧ Cond.instanceMethod mX3_tells.1 ∈ gT ∧ Cond.selects mX3_tells.1.cls mX3_tells.1 mX3_tells.1 ∈ gT := ⟨rfl, gT_in 1054 (by decide +kernel) rfl, gT_in 1041 (by decide +kernel) rfl, gT_in 1042 (by decide +kernel) rfl⟩
theorem sX3_34 : vwCl[3]? = some (mX3_stays.1.cls, TX3, 3) ∧ Cond.methodLink RX3 34 mX3_stays.1 ∈ gT ∧ Cond.instanceMethod mX3_stays.1 ∈ gT ∧ Cond.selects mX3_stays.1.cls mX3_stays.1 mX3_stays.1 ∈ gT := ⟨rfl, gT_in 1059 (by decide +kernel) rfl, gT_in 1000 (by decide +kernel) rfl, gT_in 1001 (by decide +kernel) rfl⟩
theorem sL_181 : vwCl[11]? = some (mX11_trace.1.cls, TX11, 13) ∧ Cond.methodLink RL 181 mX11_trace.1 ∈ gT ∧ Cond.instanceMethod mX11_trace.1 ∈ gT ∧ Cond.selects mX11_trace.1.cls mX11_trace.1 mX11_trace.1 ∈ gT := ⟨rfl, gT_in 1060 (by decide +kernel) rfl, gT_in 1061 (by decide +kernel) rfl, gT_in 1062 (by decide +kernel) rfl⟩
theorem sL_185 : vwCl[11]? = some (mX11_many.1.cls, TX11, 13) ∧ Cond.methodLink RL 185 mX11_many.1 ∈ gT ∧ Cond.instanceMethod mX11_many.1 ∈ gT ∧ Cond.selects mX11_many.1.cls mX11_many.1 mX11_many.1 ∈ gT := ⟨rfl, gT_in 1064 (by decide +kernel) rfl, gT_in 1065 (by decide +kernel) rfl, gT_in 1066 (by decide +kernel) rfl⟩
theorem sL_189 : vwCl[11]? = some (mX11_keep.1.cls, TX11, 13) ∧ Cond.methodLink RL 189 mX11_keep.1 ∈ gT ∧ Cond.instanceMethod mX11_keep.1 ∈ gT ∧ Cond.selects mX11_keep.1.cls mX11_keep.1 mX11_keep.1 ∈ gT := ⟨rfl, gT_in 1068 (by decide +kernel) rfl, gT_in 1069 (by decide +kernel) rfl, gT_in 1070 (by decide +kernel) rfl⟩
theorem sL_193 : vwCl[11]? = some (mX11_again.1.cls, TX11, 13) ∧ Cond.methodLink RL 193 mX11_again.1 ∈ gT ∧ Cond.instanceMethod mX11_again.1 ∈ gT ∧ Cond.selects mX11_again.1.cls mX11_again.1 mX11_again.1 ∈ gT := ⟨rfl, gT_in 1072 (by decide +kernel) rfl, gT_in 1073 (by decide +kernel) rfl, gT_in 1074 (by decide +kernel) rfl⟩
theorem nL_10 : gNw RL 10 12 55 := ⟨RX12, TX12, tyX12, rfl, iX12, tyX12_ok, gT_in 1076 (by decide +kernel) rfl, gT_in 1077 (by decide +kernel) rfl, gT_in 87 (by decide +kernel) rfl⟩
theorem sL_12 : mX12_init.1.name = "<init>" ∧ Cond.methodLink RL 12 mX12_init.1 ∈ gT ∧ Cond.instanceMethod mX12_init.1 ∈ gT := ⟨rfl, gT_in 1078 (by decide +kernel) rfl, gT_in 1079 (by decide +kernel) rfl⟩
theorem fX12_97 : gFd RX12 97 12 0 false .int := ⟨RX12, TX12, 55, "HeldPathsModel", tyX12, rfl, by decide, iX12, gT_in 1082 (by decide +kernel) rfl, Or.inl rfl, tyX12_ok, nmX12, rfl, tyX12_ok 0 (by decide), fun h => by cases h⟩
theorem fX12_7 : gFd RX12 7 12 1 true (.array .int) := ⟨RX12, TX12, 55, "HeldPathsModel", tyX12, rfl, by decide, iX12, gT_in 1083 (by decide +kernel) rfl, Or.inl rfl, tyX12_ok, nmX12, rfl, tyX12_ok 1 (by decide), fun _ => rfl⟩
theorem fX12_103 : gFd RX12 103 12 2 false .int := ⟨RX12, TX12, 55, "HeldPathsModel", tyX12, rfl, by decide, iX12, gT_in 1084 (by decide +kernel) rfl, Or.inl rfl, tyX12_ok, nmX12, rfl, tyX12_ok 2 (by decide), fun h => by cases h⟩
theorem fX12_100 : gFd RX12 100 12 3 false .int := ⟨RX12, TX12, 55, "HeldPathsModel", tyX12, rfl, by decide, iX12, gT_in 1085 (by decide +kernel) rfl, Or.inl rfl, tyX12_ok, nmX12, rfl, tyX12_ok 3 (by decide), fun h => by cases h⟩
theorem fX12_13 : gFd RX12 13 12 4 true (.array .int) := ⟨RX12, TX12, 55, "HeldPathsModel", tyX12, rfl, by decide, iX12, gT_in 1086 (by decide +kernel) rfl, Or.inl rfl, tyX12_ok, nmX12, rfl, tyX12_ok 4 (by decide), fun _ => rfl⟩
theorem fX12_16 : gFd RX12 16 12 5 true (.array .int) := ⟨RX12, TX12, 55, "HeldPathsModel", tyX12, rfl, by decide, iX12, gT_in 1087 (by decide +kernel) rfl, Or.inl rfl, tyX12_ok, nmX12, rfl, tyX12_ok 5 (by decide), fun _ => rfl⟩
theorem fX12_19 : gFd RX12 19 12 6 true (.array .int) := ⟨RX12, TX12, 55, "HeldPathsModel", tyX12, rfl, by decide, iX12, gT_in 1088 (by decide +kernel) rfl, Or.inl rfl, tyX12_ok, nmX12, rfl, tyX12_ok 6 (by decide), fun _ => rfl⟩
theorem fX12_224 : gFd RX12 224 12 7 false .boolean := ⟨RX12, TX12, 55, "HeldPathsModel", tyX12, rfl, by decide, iX12, gT_in 1089 (by decide +kernel) rfl, Or.inl rfl, tyX12_ok, nmX12, rfl, tyX12_ok 7 (by decide), fun h => by cases h⟩
theorem fX12_22 : gFd RX12 22 12 8 true (.array .int) := ⟨RX12, TX12, 55, "HeldPathsModel", tyX12, rfl, by decide, iX12, gT_in 1090 (by decide +kernel) rfl, Or.inl rfl, tyX12_ok, nmX12, rfl, tyX12_ok 8 (by decide), fun _ => rfl⟩
theorem fX12_227 : gFd RX12 227 12 9 false .int := ⟨RX12, TX12, 55, "HeldPathsModel", tyX12, rfl, by decide, iX12, gT_in 1091 (by decide +kernel) rfl, Or.inl rfl, tyX12_ok, nmX12, rfl, tyX12_ok 9 (by decide), fun h => by cases h⟩
theorem fX12_25 : gFd RX12 25 12 10 false .int := ⟨RX12, TX12, 55, "HeldPathsModel", tyX12, rfl, by decide, iX12, gT_in 1092 (by decide +kernel) rfl, Or.inl rfl, tyX12_ok, nmX12, rfl, tyX12_ok 10 (by decide), fun h => by cases h⟩
theorem fX12_339 : gFd RX12 339 12 11 false .int := ⟨RX12, TX12, 55, "HeldPathsModel", tyX12, rfl, by decide, iX12, gT_in 1093 (by decide +kernel) rfl, Or.inl rfl, tyX12_ok, nmX12, rfl, tyX12_ok 11 (by decide), fun h => by cases h⟩
theorem fX12_29 : gFd RX12 29 12 12 true (.array .int) := ⟨RX12, TX12, 55, "HeldPathsModel", tyX12, rfl, by decide, iX12, gT_in 1094 (by decide +kernel) rfl, Or.inl rfl, tyX12_ok, nmX12, rfl, tyX12_ok 12 (by decide), fun _ => rfl⟩
theorem fX12_32 : gFd RX12 32 12 13 true (.array .int) := ⟨RX12, TX12, 55, "HeldPathsModel", tyX12, rfl, by decide, iX12, gT_in 1095 (by decide +kernel) rfl, Or.inl rfl, tyX12_ok, nmX12, rfl, tyX12_ok 13 (by decide), fun _ => rfl⟩
theorem fX12_110 : gFd RX12 110 12 14 false .int := ⟨RX12, TX12, 55, "HeldPathsModel", tyX12, rfl, by decide, iX12, gT_in 1096 (by decide +kernel) rfl, Or.inl rfl, tyX12_ok, nmX12, rfl, tyX12_ok 14 (by decide), fun h => by cases h⟩
theorem fX12_132 : gFd RX12 132 12 15 false .int := ⟨RX12, TX12, 55, "HeldPathsModel", tyX12, rfl, by decide, iX12, gT_in 1097 (by decide +kernel) rfl, Or.inl rfl, tyX12_ok, nmX12, rfl, tyX12_ok 15 (by decide), fun h => by cases h⟩
theorem fX12_118 : gFd RX12 118 12 16 false .int := ⟨RX12, TX12, 55, "HeldPathsModel", tyX12, rfl, by decide, iX12, gT_in 1098 (by decide +kernel) rfl, Or.inl rfl, tyX12_ok, nmX12, rfl, tyX12_ok 16 (by decide), fun h => by cases h⟩
theorem fX12_115 : gFd RX12 115 12 17 false .int := ⟨RX12, TX12, 55, "HeldPathsModel", tyX12, rfl, by decide, iX12, gT_in 1099 (by decide +kernel) rfl, Or.inl rfl, tyX12_ok, nmX12, rfl, tyX12_ok 17 (by decide), fun h => by cases h⟩
theorem fX12_135 : gFd RX12 135 12 18 false .long := ⟨RX12, TX12, 55, "HeldPathsModel", tyX12, rfl, by decide, iX12, gT_in 1100 (by decide +kernel) rfl, Or.inl rfl, tyX12_ok, nmX12, rfl, tyX12_ok 18 (by decide), fun h => by cases h⟩
theorem fX12_139 : gFd RX12 139 12 19 false .int := ⟨RX12, TX12, 55, "HeldPathsModel", tyX12, rfl, by decide, iX12, gT_in 1101 (by decide +kernel) rfl, Or.inl rfl, tyX12_ok, nmX12, rfl, tyX12_ok 19 (by decide), fun h => by cases h⟩
theorem fX12_164 : gFd RX12 164 12 20 false .boolean := ⟨RX12, TX12, 55, "HeldPathsModel", tyX12, rfl, by decide, iX12, gT_in 1102 (by decide +kernel) rfl, Or.inl rfl, tyX12_ok, nmX12, rfl, tyX12_ok 20 (by decide), fun h => by cases h⟩
theorem fX12_174 : gFd RX12 174 12 21 false .int := ⟨RX12, TX12, 55, "HeldPathsModel", tyX12, rfl, by decide, iX12, gT_in 1103 (by decide +kernel) rfl, Or.inl rfl, tyX12_ok, nmX12, rfl, tyX12_ok 21 (by decide), fun h => by cases h⟩
theorem fX12_193 : gFd RX12 193 12 22 false .int := ⟨RX12, TX12, 55, "HeldPathsModel", tyX12, rfl, by decide, iX12, gT_in 1104 (by decide +kernel) rfl, Or.inl rfl, tyX12_ok, nmX12, rfl, tyX12_ok 22 (by decide), fun h => by cases h⟩
theorem fX12_196 : gFd RX12 196 12 23 false .int := ⟨RX12, TX12, 55, "HeldPathsModel", tyX12, rfl, by decide, iX12, gT_in 1105 (by decide +kernel) rfl, Or.inl rfl, tyX12_ok, nmX12, rfl, tyX12_ok 23 (by decide), fun h => by cases h⟩
theorem fX12_216 : gFd RX12 216 12 24 false .boolean := ⟨RX12, TX12, 55, "HeldPathsModel", tyX12, rfl, by decide, iX12, gT_in 1106 (by decide +kernel) rfl, Or.inl rfl, tyX12_ok, nmX12, rfl, tyX12_ok 24 (by decide), fun h => by cases h⟩
theorem fX12_35 : gFd RX12 35 12 25 true (.array .int) := ⟨RX12, TX12, 55, "HeldPathsModel", tyX12, rfl, by decide, iX12, gT_in 1107 (by decide +kernel) rfl, Or.inl rfl, tyX12_ok, nmX12, rfl, tyX12_ok 25 (by decide), fun _ => rfl⟩
theorem fX12_38 : gFd RX12 38 12 26 true (.array .int) := ⟨RX12, TX12, 55, "HeldPathsModel", tyX12, rfl, by decide, iX12, gT_in 1108 (by decide +kernel) rfl, Or.inl rfl, tyX12_ok, nmX12, rfl, tyX12_ok 26 (by decide), fun _ => rfl⟩
theorem fX12_41 : gFd RX12 41 12 27 true (.array .int) := ⟨RX12, TX12, 55, "HeldPathsModel", tyX12, rfl, by decide, iX12, gT_in 1109 (by decide +kernel) rfl, Or.inl rfl, tyX12_ok, nmX12, rfl, tyX12_ok 27 (by decide), fun _ => rfl⟩
theorem fX12_44 : gFd RX12 44 12 28 true (.array .int) := ⟨RX12, TX12, 55, "HeldPathsModel", tyX12, rfl, by decide, iX12, gT_in 1110 (by decide +kernel) rfl, Or.inl rfl, tyX12_ok, nmX12, rfl, tyX12_ok 28 (by decide), fun _ => rfl⟩
theorem fX12_277 : gFd RX12 277 12 29 false .int := ⟨RX12, TX12, 55, "HeldPathsModel", tyX12, rfl, by decide, iX12, gT_in 1111 (by decide +kernel) rfl, Or.inl rfl, tyX12_ok, nmX12, rfl, tyX12_ok 29 (by decide), fun h => by cases h⟩
theorem fX12_295 : gFd RX12 295 12 30 false .long := ⟨RX12, TX12, 55, "HeldPathsModel", tyX12, rfl, by decide, iX12, gT_in 1112 (by decide +kernel) rfl, Or.inl rfl, tyX12_ok, nmX12, rfl, tyX12_ok 30 (by decide), fun h => by cases h⟩
theorem fX12_298 : gFd RX12 298 12 31 false .long := ⟨RX12, TX12, 55, "HeldPathsModel", tyX12, rfl, by decide, iX12, gT_in 1113 (by decide +kernel) rfl, Or.inl rfl, tyX12_ok, nmX12, rfl, tyX12_ok 31 (by decide), fun h => by cases h⟩
theorem fX12_47 : gFd RX12 47 12 32 true (.array .int) := ⟨RX12, TX12, 55, "HeldPathsModel", tyX12, rfl, by decide, iX12, gT_in 1114 (by decide +kernel) rfl, Or.inl rfl, tyX12_ok, nmX12, rfl, tyX12_ok 32 (by decide), fun _ => rfl⟩
theorem fX12_50 : gFd RX12 50 12 33 true (.array .int) := ⟨RX12, TX12, 55, "HeldPathsModel", tyX12, rfl, by decide, iX12, gT_in 1115 (by decide +kernel) rfl, Or.inl rfl, tyX12_ok, nmX12, rfl, tyX12_ok 33 (by decide), fun _ => rfl⟩
theorem fX12_53 : gFd RX12 53 12 34 true (.array .long) := ⟨RX12, TX12, 55, "HeldPathsModel", tyX12, rfl, by decide, iX12, gT_in 1116 (by decide +kernel) rfl, Or.inl rfl, tyX12_ok, nmX12, rfl, tyX12_ok 34 (by decide), fun _ => rfl⟩
theorem fX12_57 : gFd RX12 57 12 35 true (.array .long) := ⟨RX12, TX12, 55, "HeldPathsModel", tyX12, rfl, by decide, iX12, gT_in 1117 (by decide +kernel) rfl, Or.inl rfl, tyX12_ok, nmX12, rfl, tyX12_ok 35 (by decide), fun _ => rfl⟩
theorem fX12_60 : gFd RX12 60 12 36 true (.array .int) := ⟨RX12, TX12, 55, "HeldPathsModel", tyX12, rfl, by decide, iX12, gT_in 1118 (by decide +kernel) rfl, Or.inl rfl, tyX12_ok, nmX12, rfl, tyX12_ok 36 (by decide), fun _ => rfl⟩
theorem fX12_63 : gFd RX12 63 12 37 true (.array .int) := ⟨RX12, TX12, 55, "HeldPathsModel", tyX12, rfl, by decide, iX12, gT_in 1119 (by decide +kernel) rfl, Or.inl rfl, tyX12_ok, nmX12, rfl, tyX12_ok 37 (by decide), fun _ => rfl⟩
theorem fX12_230 : gFd RX12 230 12 38 false .int := ⟨RX12, TX12, 55, "HeldPathsModel", tyX12, rfl, by decide, iX12, gT_in 1120 (by decide +kernel) rfl, Or.inl rfl, tyX12_ok, nmX12, rfl, tyX12_ok 38 (by decide), fun h => by cases h⟩
theorem fX12_66 : gFd RX12 66 12 39 true (.array .int) := ⟨RX12, TX12, 55, "HeldPathsModel", tyX12, rfl, by decide, iX12, gT_in 1121 (by decide +kernel) rfl, Or.inl rfl, tyX12_ok, nmX12, rfl, tyX12_ok 39 (by decide), fun _ => rfl⟩
theorem fX12_69 : gFd RX12 69 12 40 true (.array .int) := ⟨RX12, TX12, 55, "HeldPathsModel", tyX12, rfl, by decide, iX12, gT_in 1122 (by decide +kernel) rfl, Or.inl rfl, tyX12_ok, nmX12, rfl, tyX12_ok 40 (by decide), fun _ => rfl⟩
theorem fX12_72 : gFd RX12 72 12 41 true (.array .long) := ⟨RX12, TX12, 55, "HeldPathsModel", tyX12, rfl, by decide, iX12, gT_in 1123 (by decide +kernel) rfl, Or.inl rfl, tyX12_ok, nmX12, rfl, tyX12_ok 41 (by decide), fun _ => rfl⟩
theorem fX12_75 : gFd RX12 75 12 42 true (.array .int) := ⟨RX12, TX12, 55, "HeldPathsModel", tyX12, rfl, by decide, iX12, gT_in 1124 (by decide +kernel) rfl, Or.inl rfl, tyX12_ok, nmX12, rfl, tyX12_ok 42 (by decide), fun _ => rfl⟩
theorem fX12_78 : gFd RX12 78 12 43 true (.array .int) := ⟨RX12, TX12, 55, "HeldPathsModel", tyX12, rfl, by decide, iX12, gT_in 1125 (by decide +kernel) rfl, Or.inl rfl, tyX12_ok, nmX12, rfl, tyX12_ok 43 (by decide), fun _ => rfl⟩
theorem fX12_81 : gFd RX12 81 12 44 true (.array .int) := ⟨RX12, TX12, 55, "HeldPathsModel", tyX12, rfl, by decide, iX12, gT_in 1126 (by decide +kernel) rfl, Or.inl rfl, tyX12_ok, nmX12, rfl, tyX12_ok 44 (by decide), fun _ => rfl⟩
theorem fX12_386 : gFd RX12 386 12 45 false .int := ⟨RX12, TX12, 55, "HeldPathsModel", tyX12, rfl, by decide, iX12, gT_in 1127 (by decide +kernel) rfl, Or.inl rfl, tyX12_ok, nmX12, rfl, tyX12_ok 45 (by decide), fun h => by cases h⟩
theorem fX12_383 : gFd RX12 383 12 46 false .int := ⟨RX12, TX12, 55, "HeldPathsModel", tyX12, rfl, by decide, iX12, gT_in 1128 (by decide +kernel) rfl, Or.inl rfl, tyX12_ok, nmX12, rfl, tyX12_ok 46 (by decide), fun h => by cases h⟩
theorem fX12_398 : gFd RX12 398 12 47 false .int := ⟨RX12, TX12, 55, "HeldPathsModel", tyX12, rfl, by decide, iX12, gT_in 1129 (by decide +kernel) rfl, Or.inl rfl, tyX12_ok, nmX12, rfl, tyX12_ok 47 (by decide), fun h => by cases h⟩
theorem fX12_84 : gFd RX12 84 12 48 true (.array .int) := ⟨RX12, TX12, 55, "HeldPathsModel", tyX12, rfl, by decide, iX12, gT_in 1130 (by decide +kernel) rfl, Or.inl rfl, tyX12_ok, nmX12, rfl, tyX12_ok 48 (by decide), fun _ => rfl⟩
theorem fX12_377 : gFd RX12 377 12 49 false .int := ⟨RX12, TX12, 55, "HeldPathsModel", tyX12, rfl, by decide, iX12, gT_in 1131 (by decide +kernel) rfl, Or.inl rfl, tyX12_ok, nmX12, rfl, tyX12_ok 49 (by decide), fun h => by cases h⟩
theorem fX12_404 : gFd RX12 404 12 50 false .boolean := ⟨RX12, TX12, 55, "HeldPathsModel", tyX12, rfl, by decide, iX12, gT_in 1132 (by decide +kernel) rfl, Or.inl rfl, tyX12_ok, nmX12, rfl, tyX12_ok 50 (by decide), fun h => by cases h⟩
theorem fX12_433 : gFd RX12 433 12 51 false .boolean := ⟨RX12, TX12, 55, "HeldPathsModel", tyX12, rfl, by decide, iX12, gT_in 1133 (by decide +kernel) rfl, Or.inl rfl, tyX12_ok, nmX12, rfl, tyX12_ok 51 (by decide), fun h => by cases h⟩
theorem fX12_87 : gFd RX12 87 12 52 true (.array .int) := ⟨RX12, TX12, 55, "HeldPathsModel", tyX12, rfl, by decide, iX12, gT_in 1134 (by decide +kernel) rfl, Or.inl rfl, tyX12_ok, nmX12, rfl, tyX12_ok 52 (by decide), fun _ => rfl⟩
theorem fX12_422 : gFd RX12 422 12 53 false .int := ⟨RX12, TX12, 55, "HeldPathsModel", tyX12, rfl, by decide, iX12, gT_in 1135 (by decide +kernel) rfl, Or.inl rfl, tyX12_ok, nmX12, rfl, tyX12_ok 53 (by decide), fun h => by cases h⟩
theorem fX12_90 : gFd RX12 90 12 54 true (.array .int) := ⟨RX12, TX12, 55, "HeldPathsModel", tyX12, rfl, by decide, iX12, gT_in 1136 (by decide +kernel) rfl, Or.inl rfl, tyX12_ok, nmX12, rfl, tyX12_ok 54 (by decide), fun _ => rfl⟩
theorem sL_19 : vwCl[12]? = some (mX12_feed.1.cls, TX12, 55) ∧ Cond.methodLink RL 19 mX12_feed.1 ∈ gT ∧ Cond.instanceMethod mX12_feed.1 ∈ gT ∧ Cond.selects mX12_feed.1.cls mX12_feed.1 mX12_feed.1 ∈ gT := ⟨rfl, gT_in 1248 (by decide +kernel) rfl, gT_in 1249 (by decide +kernel) rfl, gT_in 1250 (by decide +kernel) rfl⟩
theorem sX12_93 : Cond.methodLink RX12 93 mX12_in.1 ∈ gT ∧ Cond.static mX12_in.1 ∈ gT := ⟨gT_in 1252 (by decide +kernel) rfl, gT_in 1253 (by decide +kernel) rfl⟩
theorem kX12_113 : Cond.constantLong RX12 113 (255) ∈ gT := gT_in 1255 (by decide +kernel) rfl
theorem sL_24 : vwCl[12]? = some (mX12_wood.1.cls, TX12, 55) ∧ Cond.methodLink RL 24 mX12_wood.1 ∈ gT ∧ Cond.instanceMethod mX12_wood.1 ∈ gT ∧ Cond.selects mX12_wood.1.cls mX12_wood.1 mX12_wood.1 ∈ gT := ⟨rfl, gT_in 1256 (by decide +kernel) rfl, gT_in 1257 (by decide +kernel) rfl, gT_in 1258 (by decide +kernel) rfl⟩
theorem sX12_168 : vwCl[12]? = some (mX12_advance.1.cls, TX12, 55) ∧ Cond.methodLink RX12 168 mX12_advance.1 ∈ gT ∧ Cond.instanceMethod mX12_advance.1 ∈ gT ∧ Cond.selects mX12_advance.1.cls mX12_advance.1 mX12_advance.1 ∈ gT := ⟨rfl, gT_in 1260 (by decide +kernel) rfl, gT_in 1262 (by decide +kernel) rfl, gT_in 23 (by decide +kernel) rfl⟩
theorem sX12_121 : vwCl[12]? = some (mX12_byteAt.1.cls, TX12, 55) ∧ Cond.methodLink RX12 121 mX12_byteAt.1 ∈ gT ∧ Cond.instanceMethod mX12_byteAt.1 ∈ gT ∧ Cond.selects mX12_byteAt.1.cls mX12_byteAt.1 mX12_byteAt.1 ∈ gT := ⟨rfl, gT_in 1264 (by decide +kernel) rfl, gT_in 1266 (by decide +kernel) rfl, gT_in 24 (by decide +kernel) rfl⟩
theorem sX12_125 : Cond.methodLink RX12 125 mX12_isLetter.1 ∈ gT ∧ Cond.static mX12_isLetter.1 ∈ gT := ⟨gT_in 1268 (by decide +kernel) rfl, gT_in 1269 (by decide +kernel) rfl⟩
theorem sX12_129 : Cond.methodLink RX12 129 mX12_isDigit.1 ∈ gT ∧ Cond.static mX12_isDigit.1 ∈ gT := ⟨gT_in 1271 (by decide +kernel) rfl, gT_in 1272 (by decide +kernel) rfl⟩
theorem kX12_142 : Cond.constantLong RX12 142 (27) ∈ gT := gT_in 1274 (by decide +kernel) rfl
theorem kX12_144 : Cond.constantLong RX12 144 (96) ∈ gT := gT_in 1275 (by decide +kernel) rfl
theorem kX12_146 : Cond.constantLong RX12 146 (-1) ∈ gT := gT_in 1276 (by decide +kernel) rfl
theorem sX12_221 : vwCl[12]? = some (mX12_wantClause.1.cls, TX12, 55) ∧ Cond.methodLink RX12 221 mX12_wantClause.1 ∈ gT ∧ Cond.instanceMethod mX12_wantClause.1 ∈ gT ∧ Cond.selects mX12_wantClause.1.cls mX12_wantClause.1 mX12_wantClause.1 ∈ gT := ⟨rfl, gT_in 1277 (by decide +kernel) rfl, gT_in 1279 (by decide +kernel) rfl, gT_in 25 (by decide +kernel) rfl⟩
theorem sX12_201 : vwCl[12]? = some (mX12_kindHere.1.cls, TX12, 55) ∧ Cond.methodLink RX12 201 mX12_kindHere.1 ∈ gT ∧ Cond.instanceMethod mX12_kindHere.1 ∈ gT ∧ Cond.selects mX12_kindHere.1.cls mX12_kindHere.1 mX12_kindHere.1 ∈ gT := ⟨rfl, gT_in 1281 (by decide +kernel) rfl, gT_in 1283 (by decide +kernel) rfl, gT_in 26 (by decide +kernel) rfl⟩
theorem kX12_148 : Cond.constantLong RX12 148 (316205) ∈ gT := gT_in 1285 (by decide +kernel) rfl
theorem sX12_150 : vwCl[12]? = some (mX12_isWord.1.cls, TX12, 55) ∧ Cond.methodLink RX12 150 mX12_isWord.1 ∈ gT ∧ Cond.instanceMethod mX12_isWord.1 ∈ gT ∧ Cond.selects mX12_isWord.1.cls mX12_isWord.1 mX12_isWord.1 ∈ gT := ⟨rfl, gT_in 1286 (by decide +kernel) rfl, gT_in 1288 (by decide +kernel) rfl, gT_in 27 (by decide +kernel) rfl⟩
theorem kX12_154 : Cond.constantLong RX12 154 (10983935) ∈ gT := gT_in 1290 (by decide +kernel) rfl
theorem kX12_156 : Cond.constantLong RX12 156 (453774) ∈ gT := gT_in 1291 (by decide +kernel) rfl
theorem kX12_158 : Cond.constantLong RX12 158 (82530) ∈ gT := gT_in 1292 (by decide +kernel) rfl
theorem kX12_160 : Cond.constantLong RX12 160 (1870) ∈ gT := gT_in 1293 (by decide +kernel) rfl
theorem kX12_162 : Cond.constantLong RX12 162 (360968) ∈ gT := gT_in 1294 (by decide +kernel) rfl
theorem sX12_205 : vwCl[12]? = some (mX12_wantPath.1.cls, TX12, 55) ∧ Cond.methodLink RX12 205 mX12_wantPath.1 ∈ gT ∧ Cond.instanceMethod mX12_wantPath.1 ∈ gT ∧ Cond.selects mX12_wantPath.1.cls mX12_wantPath.1 mX12_wantPath.1 ∈ gT := ⟨rfl, gT_in 1295 (by decide +kernel) rfl, gT_in 1297 (by decide +kernel) rfl, gT_in 28 (by decide +kernel) rfl⟩
theorem sX12_177 : vwCl[12]? = some (mX12_wantNumber.1.cls, TX12, 55) ∧ Cond.methodLink RX12 177 mX12_wantNumber.1 ∈ gT ∧ Cond.instanceMethod mX12_wantNumber.1 ∈ gT ∧ Cond.selects mX12_wantNumber.1.cls mX12_wantNumber.1 mX12_wantNumber.1 ∈ gT := ⟨rfl, gT_in 1299 (by decide +kernel) rfl, gT_in 1301 (by decide +kernel) rfl, gT_in 29 (by decide +kernel) rfl⟩
theorem kX12_180 : Cond.constantLong RX12 180 (388609) ∈ gT := gT_in 1303 (by decide +kernel) rfl
theorem sX12_182 : vwCl[12]? = some (mX12_wantWord.1.cls, TX12, 55) ∧ Cond.methodLink RX12 182 mX12_wantWord.1 ∈ gT ∧ Cond.instanceMethod mX12_wantWord.1 ∈ gT ∧ Cond.selects mX12_wantWord.1.cls mX12_wantWord.1 mX12_wantWord.1 ∈ gT := ⟨rfl, gT_in 1304 (by decide +kernel) rfl, gT_in 1306 (by decide +kernel) rfl, gT_in 30 (by decide +kernel) rfl⟩
theorem kX12_186 : Cond.constantLong RX12 186 (70340) ∈ gT := gT_in 1308 (by decide +kernel) rfl
theorem kX12_188 : Cond.constantLong RX12 188 (149099) ∈ gT := gT_in 1309 (by decide +kernel) rfl
theorem sX12_190 : vwCl[12]? = some (mX12_wantEnd.1.cls, TX12, 55) ∧ Cond.methodLink RX12 190 mX12_wantEnd.1 ∈ gT ∧ Cond.instanceMethod mX12_wantEnd.1 ∈ gT ∧ Cond.selects mX12_wantEnd.1.cls mX12_wantEnd.1 mX12_wantEnd.1 ∈ gT := ⟨rfl, gT_in 1310 (by decide +kernel) rfl, gT_in 1312 (by decide +kernel) rfl, gT_in 31 (by decide +kernel) rfl⟩
theorem sX12_171 : vwCl[12]? = some (mX12_isMark.1.cls, TX12, 55) ∧ Cond.methodLink RX12 171 mX12_isMark.1 ∈ gT ∧ Cond.instanceMethod mX12_isMark.1 ∈ gT ∧ Cond.selects mX12_isMark.1.cls mX12_isMark.1 mX12_isMark.1 ∈ gT := ⟨rfl, gT_in 1314 (by decide +kernel) rfl, gT_in 1316 (by decide +kernel) rfl, gT_in 32 (by decide +kernel) rfl⟩
theorem kX12_209 : Cond.constantLong RX12 209 (330800670) ∈ gT := gT_in 1318 (by decide +kernel) rfl
theorem sX12_211 : vwCl[12]? = some (mX12_wantWalker.1.cls, TX12, 55) ∧ Cond.methodLink RX12 211 mX12_wantWalker.1 ∈ gT ∧ Cond.instanceMethod mX12_wantWalker.1 ∈ gT ∧ Cond.selects mX12_wantWalker.1.cls mX12_wantWalker.1 mX12_wantWalker.1 ∈ gT := ⟨rfl, gT_in 1319 (by decide +kernel) rfl, gT_in 1321 (by decide +kernel) rfl, gT_in 33 (by decide +kernel) rfl⟩
theorem kX12_199 : Cond.constantLong RX12 199 (11716) ∈ gT := gT_in 1323 (by decide +kernel) rfl
theorem kX12_214 : Cond.constantLong RX12 214 (355280) ∈ gT := gT_in 1324 (by decide +kernel) rfl
theorem kX12_219 : Cond.constantLong RX12 219 (332864552) ∈ gT := gT_in 1325 (by decide +kernel) rfl
theorem sL_29 : vwCl[12]? = some (mX12_path.1.cls, TX12, 55) ∧ Cond.methodLink RL 29 mX12_path.1 ∈ gT ∧ Cond.instanceMethod mX12_path.1 ∈ gT ∧ Cond.selects mX12_path.1.cls mX12_path.1 mX12_path.1 ∈ gT := ⟨rfl, gT_in 1326 (by decide +kernel) rfl, gT_in 1327 (by decide +kernel) rfl, gT_in 1328 (by decide +kernel) rfl⟩
theorem sX12_233 : Cond.methodLink RX12 233 mX12_isClearing.1 ∈ gT ∧ Cond.static mX12_isClearing.1 ∈ gT := ⟨gT_in 1330 (by decide +kernel) rfl, gT_in 1331 (by decide +kernel) rfl⟩
theorem sL_34 : vwCl[12]? = some (mX12_pathOf.1.cls, TX12, 55) ∧ Cond.methodLink RL 34 mX12_pathOf.1 ∈ gT ∧ Cond.instanceMethod mX12_pathOf.1 ∈ gT ∧ Cond.selects mX12_pathOf.1.cls mX12_pathOf.1 mX12_pathOf.1 ∈ gT := ⟨rfl, gT_in 1333 (by decide +kernel) rfl, gT_in 1334 (by decide +kernel) rfl, gT_in 1335 (by decide +kernel) rfl⟩
theorem sX12_246 : vwCl[12]? = some (mX12_isPath.1.cls, TX12, 55) ∧ Cond.methodLink RX12 246 mX12_isPath.1 ∈ gT ∧ Cond.instanceMethod mX12_isPath.1 ∈ gT ∧ Cond.selects mX12_isPath.1.cls mX12_isPath.1 mX12_isPath.1 ∈ gT := ⟨rfl, gT_in 1337 (by decide +kernel) rfl, gT_in 1339 (by decide +kernel) rfl, gT_in 34 (by decide +kernel) rfl⟩
theorem sX12_249 : vwCl[12]? = some (mX12_staysOf.1.cls, TX12, 55) ∧ Cond.methodLink RX12 249 mX12_staysOf.1 ∈ gT ∧ Cond.instanceMethod mX12_staysOf.1 ∈ gT ∧ Cond.selects mX12_staysOf.1.cls mX12_staysOf.1 mX12_staysOf.1 ∈ gT := ⟨rfl, gT_in 1341 (by decide +kernel) rfl, gT_in 1343 (by decide +kernel) rfl, gT_in 35 (by decide +kernel) rfl⟩
theorem sX12_106 : vwCl[12]? = some (mX12_its.1.cls, TX12, 55) ∧ Cond.methodLink RX12 106 mX12_its.1 ∈ gT ∧ Cond.instanceMethod mX12_its.1 ∈ gT ∧ Cond.selects mX12_its.1.cls mX12_its.1 mX12_its.1 ∈ gT := ⟨rfl, gT_in 1345 (by decide +kernel) rfl, gT_in 1347 (by decide +kernel) rfl, gT_in 36 (by decide +kernel) rfl⟩
theorem sX12_240 : Cond.methodLink RX12 240 mX12_kept.1 ∈ gT ∧ Cond.static mX12_kept.1 ∈ gT := ⟨gT_in 1349 (by decide +kernel) rfl, gT_in 1350 (by decide +kernel) rfl⟩
theorem sX12_243 : vwCl[12]? = some (mX12_isRidden.1.cls, TX12, 55) ∧ Cond.methodLink RX12 243 mX12_isRidden.1 ∈ gT ∧ Cond.instanceMethod mX12_isRidden.1 ∈ gT ∧ Cond.selects mX12_isRidden.1.cls mX12_isRidden.1 mX12_isRidden.1 ∈ gT := ⟨rfl, gT_in 1352 (by decide +kernel) rfl, gT_in 1354 (by decide +kernel) rfl, gT_in 37 (by decide +kernel) rfl⟩
theorem sX12_236 : vwCl[12]? = some (mX12_isEnd.1.cls, TX12, 55) ∧ Cond.methodLink RX12 236 mX12_isEnd.1 ∈ gT ∧ Cond.instanceMethod mX12_isEnd.1 ∈ gT ∧ Cond.selects mX12_isEnd.1.cls mX12_isEnd.1 mX12_isEnd.1 ∈ gT := ⟨rfl, gT_in 1356 (by decide +kernel) rfl, gT_in 1358 (by decide +kernel) rfl, gT_in 38 (by decide +kernel) rfl⟩
theorem sX12_252 : vwCl[12]? = some (mX12_comesOf.1.cls, TX12, 55) ∧ Cond.methodLink RX12 252 mX12_comesOf.1 ∈ gT ∧ Cond.instanceMethod mX12_comesOf.1 ∈ gT ∧ Cond.selects mX12_comesOf.1.cls mX12_comesOf.1 mX12_comesOf.1 ∈ gT := ⟨rfl, gT_in 1360 (by decide +kernel) rfl, gT_in 1362 (by decide +kernel) rfl, gT_in 39 (by decide +kernel) rfl⟩
theorem sX12_255 : vwCl[12]? = some (mX12_onWhich.1.cls, TX12, 55) ∧ Cond.methodLink RX12 255 mX12_onWhich.1 ∈ gT ∧ Cond.instanceMethod mX12_onWhich.1 ∈ gT ∧ Cond.selects mX12_onWhich.1.cls mX12_onWhich.1 mX12_onWhich.1 ∈ gT := ⟨rfl, gT_in 1364 (by decide +kernel) rfl, gT_in 1366 (by decide +kernel) rfl, gT_in 40 (by decide +kernel) rfl⟩
theorem sL_39 : vwCl[12]? = some (mX12_open.1.cls, TX12, 55) ∧ Cond.methodLink RL 39 mX12_open.1 ∈ gT ∧ Cond.instanceMethod mX12_open.1 ∈ gT ∧ Cond.selects mX12_open.1.cls mX12_open.1 mX12_open.1 ∈ gT := ⟨rfl, gT_in 1368 (by decide +kernel) rfl, gT_in 1369 (by decide +kernel) rfl, gT_in 1370 (by decide +kernel) rfl⟩
theorem sX12_258 : vwCl[12]? = some (mX12_isThere.1.cls, TX12, 55) ∧ Cond.methodLink RX12 258 mX12_isThere.1 ∈ gT ∧ Cond.instanceMethod mX12_isThere.1 ∈ gT ∧ Cond.selects mX12_isThere.1.cls mX12_isThere.1 mX12_isThere.1 ∈ gT := ⟨rfl, gT_in 1372 (by decide +kernel) rfl, gT_in 1374 (by decide +kernel) rfl, gT_in 41 (by decide +kernel) rfl⟩
theorem sL_44 : vwCl[12]? = some (mX12_rain.1.cls, TX12, 55) ∧ Cond.methodLink RL 44 mX12_rain.1 ∈ gT ∧ Cond.instanceMethod mX12_rain.1 ∈ gT ∧ Cond.selects mX12_rain.1.cls mX12_rain.1 mX12_rain.1 ∈ gT := ⟨rfl, gT_in 1376 (by decide +kernel) rfl, gT_in 1377 (by decide +kernel) rfl, gT_in 1378 (by decide +kernel) rfl⟩
theorem sL_48 : vwCl[12]? = some (mX12_weigh.1.cls, TX12, 55) ∧ Cond.methodLink RL 48 mX12_weigh.1 ∈ gT ∧ Cond.instanceMethod mX12_weigh.1 ∈ gT ∧ Cond.selects mX12_weigh.1.cls mX12_weigh.1 mX12_weigh.1 ∈ gT := ⟨rfl, gT_in 1380 (by decide +kernel) rfl, gT_in 1381 (by decide +kernel) rfl, gT_in 1382 (by decide +kernel) rfl⟩
theorem sL_52 : vwCl[12]? = some (mX12_walker.1.cls, TX12, 55) ∧ Cond.methodLink RL 52 mX12_walker.1 ∈ gT ∧ Cond.instanceMethod mX12_walker.1 ∈ gT ∧ Cond.selects mX12_walker.1.cls mX12_walker.1 mX12_walker.1 ∈ gT := ⟨rfl, gT_in 1384 (by decide +kernel) rfl, gT_in 1385 (by decide +kernel) rfl, gT_in 1386 (by decide +kernel) rfl⟩
theorem sL_56 : vwCl[12]? = some (mX12_walkerOf.1.cls, TX12, 55) ∧ Cond.methodLink RL 56 mX12_walkerOf.1 ∈ gT ∧ Cond.instanceMethod mX12_walkerOf.1 ∈ gT ∧ Cond.selects mX12_walkerOf.1.cls mX12_walkerOf.1 mX12_walkerOf.1 ∈ gT := ⟨rfl, gT_in 1388 (by decide +kernel) rfl, gT_in 1389 (by decide +kernel) rfl, gT_in 1390 (by decide +kernel) rfl⟩
theorem sX12_261 : vwCl[12]? = some (mX12_isWalker.1.cls, TX12, 55) ∧ Cond.methodLink RX12 261 mX12_isWalker.1 ∈ gT ∧ Cond.instanceMethod mX12_isWalker.1 ∈ gT ∧ Cond.selects mX12_isWalker.1.cls mX12_isWalker.1 mX12_isWalker.1 ∈ gT := ⟨rfl, gT_in 1392 (by decide +kernel) rfl, gT_in 1394 (by decide +kernel) rfl, gT_in 42 (by decide +kernel) rfl⟩
theorem sL_60 : vwCl[12]? = some (mX12_walk.1.cls, TX12, 55) ∧ Cond.methodLink RL 60 mX12_walk.1 ∈ gT ∧ Cond.instanceMethod mX12_walk.1 ∈ gT ∧ Cond.selects mX12_walk.1.cls mX12_walk.1 mX12_walk.1 ∈ gT := ⟨rfl, gT_in 1396 (by decide +kernel) rfl, gT_in 1397 (by decide +kernel) rfl, gT_in 1398 (by decide +kernel) rfl⟩
theorem sX12_264 : vwCl[12]? = some (mX12_canTake.1.cls, TX12, 55) ∧ Cond.methodLink RX12 264 mX12_canTake.1 ∈ gT ∧ Cond.instanceMethod mX12_canTake.1 ∈ gT ∧ Cond.selects mX12_canTake.1.cls mX12_canTake.1 mX12_canTake.1 ∈ gT := ⟨rfl, gT_in 1400 (by decide +kernel) rfl, gT_in 1402 (by decide +kernel) rfl, gT_in 43 (by decide +kernel) rfl⟩
theorem sX12_267 : vwCl[12]? = some (mX12_otherEnd.1.cls, TX12, 55) ∧ Cond.methodLink RX12 267 mX12_otherEnd.1 ∈ gT ∧ Cond.instanceMethod mX12_otherEnd.1 ∈ gT ∧ Cond.selects mX12_otherEnd.1.cls mX12_otherEnd.1 mX12_otherEnd.1 ∈ gT := ⟨rfl, gT_in 1404 (by decide +kernel) rfl, gT_in 1406 (by decide +kernel) rfl, gT_in 44 (by decide +kernel) rfl⟩
theorem sL_64 : vwCl[12]? = some (mX12_on.1.cls, TX12, 55) ∧ Cond.methodLink RL 64 mX12_on.1 ∈ gT ∧ Cond.instanceMethod mX12_on.1 ∈ gT ∧ Cond.selects mX12_on.1.cls mX12_on.1 mX12_on.1 ∈ gT := ⟨rfl, gT_in 1408 (by decide +kernel) rfl, gT_in 1409 (by decide +kernel) rfl, gT_in 1410 (by decide +kernel) rfl⟩
theorem sX12_270 : Cond.methodLink RX12 270 mX12_ones.1 ∈ gT ∧ Cond.static mX12_ones.1 ∈ gT := ⟨gT_in 1412 (by decide +kernel) rfl, gT_in 1413 (by decide +kernel) rfl⟩
theorem sL_68 : vwCl[12]? = some (mX12_off.1.cls, TX12, 55) ∧ Cond.methodLink RL 68 mX12_off.1 ∈ gT ∧ Cond.instanceMethod mX12_off.1 ∈ gT ∧ Cond.selects mX12_off.1.cls mX12_off.1 mX12_off.1 ∈ gT := ⟨rfl, gT_in 1415 (by decide +kernel) rfl, gT_in 1416 (by decide +kernel) rfl, gT_in 1417 (by decide +kernel) rfl⟩
theorem sL_72 : vwCl[12]? = some (mX12_put.1.cls, TX12, 55) ∧ Cond.methodLink RL 72 mX12_put.1 ∈ gT ∧ Cond.instanceMethod mX12_put.1 ∈ gT ∧ Cond.selects mX12_put.1.cls mX12_put.1 mX12_put.1 ∈ gT := ⟨rfl, gT_in 1419 (by decide +kernel) rfl, gT_in 1420 (by decide +kernel) rfl, gT_in 1421 (by decide +kernel) rfl⟩
theorem sL_77 : vwCl[12]? = some (mX12_night.1.cls, TX12, 55) ∧ Cond.methodLink RL 77 mX12_night.1 ∈ gT ∧ Cond.instanceMethod mX12_night.1 ∈ gT ∧ Cond.selects mX12_night.1.cls mX12_night.1 mX12_night.1 ∈ gT := ⟨rfl, gT_in 1423 (by decide +kernel) rfl, gT_in 1424 (by decide +kernel) rfl, gT_in 1425 (by decide +kernel) rfl⟩
theorem sX12_283 : vwCl[12]? = some (mX12_behind.1.cls, TX12, 55) ∧ Cond.methodLink RX12 283 mX12_behind.1 ∈ gT ∧ Cond.instanceMethod mX12_behind.1 ∈ gT ∧ Cond.selects mX12_behind.1.cls mX12_behind.1 mX12_behind.1 ∈ gT := ⟨rfl, gT_in 1427 (by decide +kernel) rfl, gT_in 1429 (by decide +kernel) rfl, gT_in 45 (by decide +kernel) rfl⟩
theorem sX12_274 : vwCl[12]? = some (mX12_heldSet.1.cls, TX12, 55) ∧ Cond.methodLink RX12 274 mX12_heldSet.1 ∈ gT ∧ Cond.instanceMethod mX12_heldSet.1 ∈ gT ∧ Cond.selects mX12_heldSet.1.cls mX12_heldSet.1 mX12_heldSet.1 ∈ gT := ⟨rfl, gT_in 1431 (by decide +kernel) rfl, gT_in 1433 (by decide +kernel) rfl, gT_in 46 (by decide +kernel) rfl⟩
theorem sX12_280 : Cond.methodLink RX12 280 mX12_next.1 ∈ gT ∧ Cond.static mX12_next.1 ∈ gT := ⟨gT_in 1435 (by decide +kernel) rfl, gT_in 1436 (by decide +kernel) rfl⟩
theorem kX12_273 : Cond.constant RX12 273 (1103515245) ∈ gT := gT_in 1438 (by decide +kernel) rfl
theorem sL_81 : vwCl[12]? = some (mX12_count.1.cls, TX12, 55) ∧ Cond.methodLink RL 81 mX12_count.1 ∈ gT ∧ Cond.instanceMethod mX12_count.1 ∈ gT ∧ Cond.selects mX12_count.1.cls mX12_count.1 mX12_count.1 ∈ gT := ⟨rfl, gT_in 1439 (by decide +kernel) rfl, gT_in 1440 (by decide +kernel) rfl, gT_in 1441 (by decide +kernel) rfl⟩
theorem sL_85 : vwCl[12]? = some (mX12_seed.1.cls, TX12, 55) ∧ Cond.methodLink RL 85 mX12_seed.1 ∈ gT ∧ Cond.instanceMethod mX12_seed.1 ∈ gT ∧ Cond.selects mX12_seed.1.cls mX12_seed.1 mX12_seed.1 ∈ gT := ⟨rfl, gT_in 1443 (by decide +kernel) rfl, gT_in 1444 (by decide +kernel) rfl, gT_in 1445 (by decide +kernel) rfl⟩
theorem sL_89 : vwCl[12]? = some (mX12_way.1.cls, TX12, 55) ∧ Cond.methodLink RL 89 mX12_way.1 ∈ gT ∧ Cond.instanceMethod mX12_way.1 ∈ gT ∧ Cond.selects mX12_way.1.cls mX12_way.1 mX12_way.1 ∈ gT := ⟨rfl, gT_in 1447 (by decide +kernel) rfl, gT_in 1448 (by decide +kernel) rfl, gT_in 1449 (by decide +kernel) rfl⟩
theorem sX12_289 : vwCl[12]? = some (mX12_wayOf.1.cls, TX12, 55) ∧ Cond.methodLink RX12 289 mX12_wayOf.1 ∈ gT ∧ Cond.instanceMethod mX12_wayOf.1 ∈ gT ∧ Cond.selects mX12_wayOf.1.cls mX12_wayOf.1 mX12_wayOf.1 ∈ gT := ⟨rfl, gT_in 1451 (by decide +kernel) rfl, gT_in 1453 (by decide +kernel) rfl, gT_in 47 (by decide +kernel) rfl⟩
theorem sX12_286 : vwCl[12]? = some (mX12_grown.1.cls, TX12, 55) ∧ Cond.methodLink RX12 286 mX12_grown.1 ∈ gT ∧ Cond.instanceMethod mX12_grown.1 ∈ gT ∧ Cond.selects mX12_grown.1.cls mX12_grown.1 mX12_grown.1 ∈ gT := ⟨rfl, gT_in 1455 (by decide +kernel) rfl, gT_in 1457 (by decide +kernel) rfl, gT_in 48 (by decide +kernel) rfl⟩
theorem sL_93 : vwCl[12]? = some (mX12_reach.1.cls, TX12, 55) ∧ Cond.methodLink RL 93 mX12_reach.1 ∈ gT ∧ Cond.instanceMethod mX12_reach.1 ∈ gT ∧ Cond.selects mX12_reach.1.cls mX12_reach.1 mX12_reach.1 ∈ gT := ⟨rfl, gT_in 1459 (by decide +kernel) rfl, gT_in 1460 (by decide +kernel) rfl, gT_in 1461 (by decide +kernel) rfl⟩
theorem sX12_292 : vwCl[12]? = some (mX12_reachBy.1.cls, TX12, 55) ∧ Cond.methodLink RX12 292 mX12_reachBy.1 ∈ gT ∧ Cond.instanceMethod mX12_reachBy.1 ∈ gT ∧ Cond.selects mX12_reachBy.1.cls mX12_reachBy.1 mX12_reachBy.1 ∈ gT := ⟨rfl, gT_in 1463 (by decide +kernel) rfl, gT_in 1465 (by decide +kernel) rfl, gT_in 49 (by decide +kernel) rfl⟩
theorem sL_98 : vwCl[12]? = some (mX12_odds.1.cls, TX12, 55) ∧ Cond.methodLink RL 98 mX12_odds.1 ∈ gT ∧ Cond.instanceMethod mX12_odds.1 ∈ gT ∧ Cond.selects mX12_odds.1.cls mX12_odds.1 mX12_odds.1 ∈ gT := ⟨rfl, gT_in 1467 (by decide +kernel) rfl, gT_in 1468 (by decide +kernel) rfl, gT_in 1469 (by decide +kernel) rfl⟩
theorem sX12_313 : Cond.methodLink RX12 313 mX12_isSide.1 ∈ gT ∧ Cond.static mX12_isSide.1 ∈ gT := ⟨gT_in 1471 (by decide +kernel) rfl, gT_in 1472 (by decide +kernel) rfl⟩
theorem sX12_316 : vwCl[12]? = some (mX12_oddsOf.1.cls, TX12, 55) ∧ Cond.methodLink RX12 316 mX12_oddsOf.1 ∈ gT ∧ Cond.instanceMethod mX12_oddsOf.1 ∈ gT ∧ Cond.selects mX12_oddsOf.1.cls mX12_oddsOf.1 mX12_oddsOf.1 ∈ gT := ⟨rfl, gT_in 1474 (by decide +kernel) rfl, gT_in 1476 (by decide +kernel) rfl, gT_in 50 (by decide +kernel) rfl⟩
theorem sX12_309 : vwCl[12]? = some (mX12_oddsBy.1.cls, TX12, 55) ∧ Cond.methodLink RX12 309 mX12_oddsBy.1 ∈ gT ∧ Cond.instanceMethod mX12_oddsBy.1 ∈ gT ∧ Cond.selects mX12_oddsBy.1.cls mX12_oddsBy.1 mX12_oddsBy.1 ∈ gT := ⟨rfl, gT_in 1478 (by decide +kernel) rfl, gT_in 1480 (by decide +kernel) rfl, gT_in 51 (by decide +kernel) rfl⟩
theorem sX12_301 : vwCl[12]? = some (mX12_findOften.1.cls, TX12, 55) ∧ Cond.methodLink RX12 301 mX12_findOften.1 ∈ gT ∧ Cond.instanceMethod mX12_findOften.1 ∈ gT ∧ Cond.selects mX12_findOften.1.cls mX12_findOften.1 mX12_findOften.1 ∈ gT := ⟨rfl, gT_in 1482 (by decide +kernel) rfl, gT_in 1484 (by decide +kernel) rfl, gT_in 52 (by decide +kernel) rfl⟩
theorem sX12_305 : vwCl[12]? = some (mX12_oftenOf.1.cls, TX12, 55) ∧ Cond.methodLink RX12 305 mX12_oftenOf.1 ∈ gT ∧ Cond.instanceMethod mX12_oftenOf.1 ∈ gT ∧ Cond.selects mX12_oftenOf.1.cls mX12_oftenOf.1 mX12_oftenOf.1 ∈ gT := ⟨rfl, gT_in 1486 (by decide +kernel) rfl, gT_in 1488 (by decide +kernel) rfl, gT_in 53 (by decide +kernel) rfl⟩
theorem sX12_320 : vwCl[12]? = some (mX12_allOdds.1.cls, TX12, 55) ∧ Cond.methodLink RX12 320 mX12_allOdds.1 ∈ gT ∧ Cond.instanceMethod mX12_allOdds.1 ∈ gT ∧ Cond.selects mX12_allOdds.1.cls mX12_allOdds.1 mX12_allOdds.1 ∈ gT := ⟨rfl, gT_in 1490 (by decide +kernel) rfl, gT_in 1492 (by decide +kernel) rfl, gT_in 54 (by decide +kernel) rfl⟩
theorem sX12_324 : vwCl[12]? = some (mX12_lowest.1.cls, TX12, 55) ∧ Cond.methodLink RX12 324 mX12_lowest.1 ∈ gT ∧ Cond.instanceMethod mX12_lowest.1 ∈ gT ∧ Cond.selects mX12_lowest.1.cls mX12_lowest.1 mX12_lowest.1 ∈ gT := ⟨rfl, gT_in 1494 (by decide +kernel) rfl, gT_in 1496 (by decide +kernel) rfl, gT_in 55 (by decide +kernel) rfl⟩
theorem sL_103 : vwCl[12]? = some (mX12_held.1.cls, TX12, 55) ∧ Cond.methodLink RL 103 mX12_held.1 ∈ gT ∧ Cond.instanceMethod mX12_held.1 ∈ gT ∧ Cond.selects mX12_held.1.cls mX12_held.1 mX12_held.1 ∈ gT := ⟨rfl, gT_in 1498 (by decide +kernel) rfl, gT_in 1499 (by decide +kernel) rfl, gT_in 1500 (by decide +kernel) rfl⟩
theorem sL_107 : vwCl[12]? = some (mX12_keepers.1.cls, TX12, 55) ∧ Cond.methodLink RL 107 mX12_keepers.1 ∈ gT ∧ Cond.instanceMethod mX12_keepers.1 ∈ gT ∧ Cond.selects mX12_keepers.1.cls mX12_keepers.1 mX12_keepers.1 ∈ gT := ⟨rfl, gT_in 1502 (by decide +kernel) rfl, gT_in 1503 (by decide +kernel) rfl, gT_in 1504 (by decide +kernel) rfl⟩
theorem sL_111 : vwCl[12]? = some (mX12_home.1.cls, TX12, 55) ∧ Cond.methodLink RL 111 mX12_home.1 ∈ gT ∧ Cond.instanceMethod mX12_home.1 ∈ gT ∧ Cond.selects mX12_home.1.cls mX12_home.1 mX12_home.1 ∈ gT := ⟨rfl, gT_in 1506 (by decide +kernel) rfl, gT_in 1507 (by decide +kernel) rfl, gT_in 1508 (by decide +kernel) rfl⟩
theorem kX12_328 : Cond.constantLong RX12 328 (8) ∈ gT := gT_in 1510 (by decide +kernel) rfl
theorem sL_116 : vwCl[12]? = some (mX12_within.1.cls, TX12, 55) ∧ Cond.methodLink RL 116 mX12_within.1 ∈ gT ∧ Cond.instanceMethod mX12_within.1 ∈ gT ∧ Cond.selects mX12_within.1.cls mX12_within.1 mX12_within.1 ∈ gT := ⟨rfl, gT_in 1511 (by decide +kernel) rfl, gT_in 1512 (by decide +kernel) rfl, gT_in 1513 (by decide +kernel) rfl⟩
theorem sX12_330 : vwCl[12]? = some (mX12_findWins.1.cls, TX12, 55) ∧ Cond.methodLink RX12 330 mX12_findWins.1 ∈ gT ∧ Cond.instanceMethod mX12_findWins.1 ∈ gT ∧ Cond.selects mX12_findWins.1.cls mX12_findWins.1 mX12_findWins.1 ∈ gT := ⟨rfl, gT_in 1515 (by decide +kernel) rfl, gT_in 1517 (by decide +kernel) rfl, gT_in 56 (by decide +kernel) rfl⟩
theorem sX12_333 : vwCl[12]? = some (mX12_mostOf.1.cls, TX12, 55) ∧ Cond.methodLink RX12 333 mX12_mostOf.1 ∈ gT ∧ Cond.instanceMethod mX12_mostOf.1 ∈ gT ∧ Cond.selects mX12_mostOf.1.cls mX12_mostOf.1 mX12_mostOf.1 ∈ gT := ⟨rfl, gT_in 1519 (by decide +kernel) rfl, gT_in 1521 (by decide +kernel) rfl, gT_in 57 (by decide +kernel) rfl⟩
theorem sX12_336 : vwCl[12]? = some (mX12_withinTwo.1.cls, TX12, 55) ∧ Cond.methodLink RX12 336 mX12_withinTwo.1 ∈ gT ∧ Cond.instanceMethod mX12_withinTwo.1 ∈ gT ∧ Cond.selects mX12_withinTwo.1.cls mX12_withinTwo.1 mX12_withinTwo.1 ∈ gT := ⟨rfl, gT_in 1523 (by decide +kernel) rfl, gT_in 1525 (by decide +kernel) rfl, gT_in 58 (by decide +kernel) rfl⟩
theorem sL_120 : vwCl[12]? = some (mX12_seek.1.cls, TX12, 55) ∧ Cond.methodLink RL 120 mX12_seek.1 ∈ gT ∧ Cond.instanceMethod mX12_seek.1 ∈ gT ∧ Cond.selects mX12_seek.1.cls mX12_seek.1 mX12_seek.1 ∈ gT := ⟨rfl, gT_in 1527 (by decide +kernel) rfl, gT_in 1528 (by decide +kernel) rfl, gT_in 1529 (by decide +kernel) rfl⟩
theorem sL_124 : vwCl[12]? = some (mX12_rule.1.cls, TX12, 55) ∧ Cond.methodLink RL 124 mX12_rule.1 ∈ gT ∧ Cond.instanceMethod mX12_rule.1 ∈ gT ∧ Cond.selects mX12_rule.1.cls mX12_rule.1 mX12_rule.1 ∈ gT := ⟨rfl, gT_in 1531 (by decide +kernel) rfl, gT_in 1532 (by decide +kernel) rfl, gT_in 1533 (by decide +kernel) rfl⟩
theorem sL_128 : vwCl[12]? = some (mX12_ruleOf.1.cls, TX12, 55) ∧ Cond.methodLink RL 128 mX12_ruleOf.1 ∈ gT ∧ Cond.instanceMethod mX12_ruleOf.1 ∈ gT ∧ Cond.selects mX12_ruleOf.1.cls mX12_ruleOf.1 mX12_ruleOf.1 ∈ gT := ⟨rfl, gT_in 1535 (by decide +kernel) rfl, gT_in 1536 (by decide +kernel) rfl, gT_in 1537 (by decide +kernel) rfl⟩
theorem sX12_342 : vwCl[12]? = some (mX12_isRule.1.cls, TX12, 55) ∧ Cond.methodLink RX12 342 mX12_isRule.1 ∈ gT ∧ Cond.instanceMethod mX12_isRule.1 ∈ gT ∧ Cond.selects mX12_isRule.1.cls mX12_isRule.1 mX12_isRule.1 ∈ gT := ⟨rfl, gT_in 1539 (by decide +kernel) rfl, gT_in 1541 (by decide +kernel) rfl, gT_in 59 (by decide +kernel) rfl⟩
theorem sL_136 : vwCl[12]? = some (mX12_goes.1.cls, TX12, 55) ∧ Cond.methodLink RL 136 mX12_goes.1 ∈ gT ∧ Cond.instanceMethod mX12_goes.1 ∈ gT ∧ Cond.selects mX12_goes.1.cls mX12_goes.1 mX12_goes.1 ∈ gT := ⟨rfl, gT_in 1543 (by decide +kernel) rfl, gT_in 1544 (by decide +kernel) rfl, gT_in 1545 (by decide +kernel) rfl⟩
theorem sX12_353 : vwCl[12]? = some (mX12_goesBy.1.cls, TX12, 55) ∧ Cond.methodLink RX12 353 mX12_goesBy.1 ∈ gT ∧ Cond.instanceMethod mX12_goesBy.1 ∈ gT ∧ Cond.selects mX12_goesBy.1.cls mX12_goesBy.1 mX12_goesBy.1 ∈ gT := ⟨rfl, gT_in 1547 (by decide +kernel) rfl, gT_in 1549 (by decide +kernel) rfl, gT_in 60 (by decide +kernel) rfl⟩
theorem sX12_347 : vwCl[12]? = some (mX12_firstPath.1.cls, TX12, 55) ∧ Cond.methodLink RX12 347 mX12_firstPath.1 ∈ gT ∧ Cond.instanceMethod mX12_firstPath.1 ∈ gT ∧ Cond.selects mX12_firstPath.1.cls mX12_firstPath.1 mX12_firstPath.1 ∈ gT := ⟨rfl, gT_in 1551 (by decide +kernel) rfl, gT_in 1553 (by decide +kernel) rfl, gT_in 61 (by decide +kernel) rfl⟩
theorem sX12_350 : vwCl[12]? = some (mX12_backFrom.1.cls, TX12, 55) ∧ Cond.methodLink RX12 350 mX12_backFrom.1 ∈ gT ∧ Cond.instanceMethod mX12_backFrom.1 ∈ gT ∧ Cond.selects mX12_backFrom.1.cls mX12_backFrom.1 mX12_backFrom.1 ∈ gT := ⟨rfl, gT_in 1555 (by decide +kernel) rfl, gT_in 1557 (by decide +kernel) rfl, gT_in 62 (by decide +kernel) rfl⟩
theorem kX12_345 : Cond.constantLong RX12 345 (2) ∈ gT := gT_in 1559 (by decide +kernel) rfl
theorem sL_132 : vwCl[12]? = some (mX12_does.1.cls, TX12, 55) ∧ Cond.methodLink RL 132 mX12_does.1 ∈ gT ∧ Cond.instanceMethod mX12_does.1 ∈ gT ∧ Cond.selects mX12_does.1.cls mX12_does.1 mX12_does.1 ∈ gT := ⟨rfl, gT_in 1560 (by decide +kernel) rfl, gT_in 1561 (by decide +kernel) rfl, gT_in 1562 (by decide +kernel) rfl⟩
theorem sL_140 : vwCl[12]? = some (mX12_prove.1.cls, TX12, 55) ∧ Cond.methodLink RL 140 mX12_prove.1 ∈ gT ∧ Cond.instanceMethod mX12_prove.1 ∈ gT ∧ Cond.selects mX12_prove.1.cls mX12_prove.1 mX12_prove.1 ∈ gT := ⟨rfl, gT_in 1564 (by decide +kernel) rfl, gT_in 1565 (by decide +kernel) rfl, gT_in 1566 (by decide +kernel) rfl⟩
theorem sX12_356 : vwCl[12]? = some (mX12_findRows.1.cls, TX12, 55) ∧ Cond.methodLink RX12 356 mX12_findRows.1 ∈ gT ∧ Cond.instanceMethod mX12_findRows.1 ∈ gT ∧ Cond.selects mX12_findRows.1.cls mX12_findRows.1 mX12_findRows.1 ∈ gT := ⟨rfl, gT_in 1568 (by decide +kernel) rfl, gT_in 1570 (by decide +kernel) rfl, gT_in 63 (by decide +kernel) rfl⟩
theorem sL_144 : vwCl[12]? = some (mX12_row.1.cls, TX12, 55) ∧ Cond.methodLink RL 144 mX12_row.1 ∈ gT ∧ Cond.instanceMethod mX12_row.1 ∈ gT ∧ Cond.selects mX12_row.1.cls mX12_row.1 mX12_row.1 ∈ gT := ⟨rfl, gT_in 1572 (by decide +kernel) rfl, gT_in 1573 (by decide +kernel) rfl, gT_in 1574 (by decide +kernel) rfl⟩
theorem sX12_359 : vwCl[12]? = some (mX12_isRow.1.cls, TX12, 55) ∧ Cond.methodLink RX12 359 mX12_isRow.1 ∈ gT ∧ Cond.instanceMethod mX12_isRow.1 ∈ gT ∧ Cond.selects mX12_isRow.1.cls mX12_isRow.1 mX12_isRow.1 ∈ gT := ⟨rfl, gT_in 1576 (by decide +kernel) rfl, gT_in 1578 (by decide +kernel) rfl, gT_in 64 (by decide +kernel) rfl⟩
theorem sL_148 : vwCl[12]? = some (mX12_alterRow.1.cls, TX12, 55) ∧ Cond.methodLink RL 148 mX12_alterRow.1 ∈ gT ∧ Cond.instanceMethod mX12_alterRow.1 ∈ gT ∧ Cond.selects mX12_alterRow.1.cls mX12_alterRow.1 mX12_alterRow.1 ∈ gT := ⟨rfl, gT_in 1580 (by decide +kernel) rfl, gT_in 1581 (by decide +kernel) rfl, gT_in 1582 (by decide +kernel) rfl⟩
theorem sL_152 : vwCl[12]? = some (mX12_judge.1.cls, TX12, 55) ∧ Cond.methodLink RL 152 mX12_judge.1 ∈ gT ∧ Cond.instanceMethod mX12_judge.1 ∈ gT ∧ Cond.selects mX12_judge.1.cls mX12_judge.1 mX12_judge.1 ∈ gT := ⟨rfl, gT_in 1584 (by decide +kernel) rfl, gT_in 1585 (by decide +kernel) rfl, gT_in 1586 (by decide +kernel) rfl⟩
theorem sL_156 : vwCl[12]? = some (mX12_lays.1.cls, TX12, 55) ∧ Cond.methodLink RL 156 mX12_lays.1 ∈ gT ∧ Cond.instanceMethod mX12_lays.1 ∈ gT ∧ Cond.selects mX12_lays.1.cls mX12_lays.1 mX12_lays.1 ∈ gT := ⟨rfl, gT_in 1588 (by decide +kernel) rfl, gT_in 1589 (by decide +kernel) rfl, gT_in 1590 (by decide +kernel) rfl⟩
theorem sX12_362 : Cond.methodLink RX12 362 mX12_isShelf.1 ∈ gT ∧ Cond.static mX12_isShelf.1 ∈ gT := ⟨gT_in 1592 (by decide +kernel) rfl, gT_in 1593 (by decide +kernel) rfl⟩
theorem sX12_365 : vwCl[12]? = some (mX12_lacksSort.1.cls, TX12, 55) ∧ Cond.methodLink RX12 365 mX12_lacksSort.1 ∈ gT ∧ Cond.instanceMethod mX12_lacksSort.1 ∈ gT ∧ Cond.selects mX12_lacksSort.1.cls mX12_lacksSort.1 mX12_lacksSort.1 ∈ gT := ⟨rfl, gT_in 1595 (by decide +kernel) rfl, gT_in 1597 (by decide +kernel) rfl, gT_in 65 (by decide +kernel) rfl⟩
theorem sL_160 : vwCl[12]? = some (mX12_sheet.1.cls, TX12, 55) ∧ Cond.methodLink RL 160 mX12_sheet.1 ∈ gT ∧ Cond.instanceMethod mX12_sheet.1 ∈ gT ∧ Cond.selects mX12_sheet.1.cls mX12_sheet.1 mX12_sheet.1 ∈ gT := ⟨rfl, gT_in 1599 (by decide +kernel) rfl, gT_in 1600 (by decide +kernel) rfl, gT_in 1601 (by decide +kernel) rfl⟩
theorem sL_164 : vwCl[12]? = some (mX12_write.1.cls, TX12, 55) ∧ Cond.methodLink RL 164 mX12_write.1 ∈ gT ∧ Cond.instanceMethod mX12_write.1 ∈ gT ∧ Cond.selects mX12_write.1.cls mX12_write.1 mX12_write.1 ∈ gT := ⟨rfl, gT_in 1603 (by decide +kernel) rfl, gT_in 1604 (by decide +kernel) rfl, gT_in 1605 (by decide +kernel) rfl⟩
theorem sL_168 : vwCl[12]? = some (mX12_item.1.cls, TX12, 55) ∧ Cond.methodLink RL 168 mX12_item.1 ∈ gT ∧ Cond.instanceMethod mX12_item.1 ∈ gT ∧ Cond.selects mX12_item.1.cls mX12_item.1 mX12_item.1 ∈ gT := ⟨rfl, gT_in 1607 (by decide +kernel) rfl, gT_in 1608 (by decide +kernel) rfl, gT_in 1609 (by decide +kernel) rfl⟩
theorem sL_172 : vwCl[12]? = some (mX12_shelf.1.cls, TX12, 55) ∧ Cond.methodLink RL 172 mX12_shelf.1 ∈ gT ∧ Cond.instanceMethod mX12_shelf.1 ∈ gT ∧ Cond.selects mX12_shelf.1.cls mX12_shelf.1 mX12_shelf.1 ∈ gT := ⟨rfl, gT_in 1611 (by decide +kernel) rfl, gT_in 1612 (by decide +kernel) rfl, gT_in 1613 (by decide +kernel) rfl⟩
theorem sX12_368 : vwCl[12]? = some (mX12_isHeld.1.cls, TX12, 55) ∧ Cond.methodLink RX12 368 mX12_isHeld.1 ∈ gT ∧ Cond.instanceMethod mX12_isHeld.1 ∈ gT ∧ Cond.selects mX12_isHeld.1.cls mX12_isHeld.1 mX12_isHeld.1 ∈ gT := ⟨rfl, gT_in 1615 (by decide +kernel) rfl, gT_in 1617 (by decide +kernel) rfl, gT_in 66 (by decide +kernel) rfl⟩
theorem sL_176 : vwCl[12]? = some (mX12_taken.1.cls, TX12, 55) ∧ Cond.methodLink RL 176 mX12_taken.1 ∈ gT ∧ Cond.instanceMethod mX12_taken.1 ∈ gT ∧ Cond.selects mX12_taken.1.cls mX12_taken.1 mX12_taken.1 ∈ gT := ⟨rfl, gT_in 1619 (by decide +kernel) rfl, gT_in 1620 (by decide +kernel) rfl, gT_in 1621 (by decide +kernel) rfl⟩
theorem sX12_371 : vwCl[12]? = some (mX12_kindOn.1.cls, TX12, 55) ∧ Cond.methodLink RX12 371 mX12_kindOn.1 ∈ gT ∧ Cond.instanceMethod mX12_kindOn.1 ∈ gT ∧ Cond.selects mX12_kindOn.1.cls mX12_kindOn.1 mX12_kindOn.1 ∈ gT := ⟨rfl, gT_in 1623 (by decide +kernel) rfl, gT_in 1625 (by decide +kernel) rfl, gT_in 67 (by decide +kernel) rfl⟩
theorem sX12_374 : Cond.methodLink RX12 374 mX12_isUnder.1 ∈ gT ∧ Cond.static mX12_isUnder.1 ∈ gT := ⟨gT_in 1627 (by decide +kernel) rfl, gT_in 1628 (by decide +kernel) rfl⟩
theorem sL_180 : vwCl[12]? = some (mX12_act.1.cls, TX12, 55) ∧ Cond.methodLink RL 180 mX12_act.1 ∈ gT ∧ Cond.instanceMethod mX12_act.1 ∈ gT ∧ Cond.selects mX12_act.1.cls mX12_act.1 mX12_act.1 ∈ gT := ⟨rfl, gT_in 1630 (by decide +kernel) rfl, gT_in 1631 (by decide +kernel) rfl, gT_in 1632 (by decide +kernel) rfl⟩
theorem sX12_392 : vwCl[12]? = some (mX12_leadsIt.1.cls, TX12, 55) ∧ Cond.methodLink RX12 392 mX12_leadsIt.1 ∈ gT ∧ Cond.instanceMethod mX12_leadsIt.1 ∈ gT ∧ Cond.selects mX12_leadsIt.1.cls mX12_leadsIt.1 mX12_leadsIt.1 ∈ gT := ⟨rfl, gT_in 1634 (by decide +kernel) rfl, gT_in 1636 (by decide +kernel) rfl, gT_in 68 (by decide +kernel) rfl⟩
theorem sX12_380 : vwCl[12]? = some (mX12_ran.1.cls, TX12, 55) ∧ Cond.methodLink RX12 380 mX12_ran.1 ∈ gT ∧ Cond.instanceMethod mX12_ran.1 ∈ gT ∧ Cond.selects mX12_ran.1.cls mX12_ran.1 mX12_ran.1 ∈ gT := ⟨rfl, gT_in 1638 (by decide +kernel) rfl, gT_in 1640 (by decide +kernel) rfl, gT_in 69 (by decide +kernel) rfl⟩
theorem sX12_389 : vwCl[12]? = some (mX12_plainLeads.1.cls, TX12, 55) ∧ Cond.methodLink RX12 389 mX12_plainLeads.1 ∈ gT ∧ Cond.instanceMethod mX12_plainLeads.1 ∈ gT ∧ Cond.selects mX12_plainLeads.1.cls mX12_plainLeads.1 mX12_plainLeads.1 ∈ gT := ⟨rfl, gT_in 1642 (by decide +kernel) rfl, gT_in 1644 (by decide +kernel) rfl, gT_in 70 (by decide +kernel) rfl⟩
theorem sX12_410 : vwCl[12]? = some (mX12_staysIt.1.cls, TX12, 55) ∧ Cond.methodLink RX12 410 mX12_staysIt.1 ∈ gT ∧ Cond.instanceMethod mX12_staysIt.1 ∈ gT ∧ Cond.selects mX12_staysIt.1.cls mX12_staysIt.1 mX12_staysIt.1 ∈ gT := ⟨rfl, gT_in 1646 (by decide +kernel) rfl, gT_in 1648 (by decide +kernel) rfl, gT_in 71 (by decide +kernel) rfl⟩
theorem sX12_401 : vwCl[12]? = some (mX12_trackStays.1.cls, TX12, 55) ∧ Cond.methodLink RX12 401 mX12_trackStays.1 ∈ gT ∧ Cond.instanceMethod mX12_trackStays.1 ∈ gT ∧ Cond.selects mX12_trackStays.1.cls mX12_trackStays.1 mX12_trackStays.1 ∈ gT := ⟨rfl, gT_in 1650 (by decide +kernel) rfl, gT_in 1652 (by decide +kernel) rfl, gT_in 72 (by decide +kernel) rfl⟩
theorem sX12_395 : vwCl[12]? = some (mX12_plainStays.1.cls, TX12, 55) ∧ Cond.methodLink RX12 395 mX12_plainStays.1 ∈ gT ∧ Cond.instanceMethod mX12_plainStays.1 ∈ gT ∧ Cond.selects mX12_plainStays.1.cls mX12_plainStays.1 mX12_plainStays.1 ∈ gT := ⟨rfl, gT_in 1654 (by decide +kernel) rfl, gT_in 1656 (by decide +kernel) rfl, gT_in 73 (by decide +kernel) rfl⟩
theorem sX12_416 : vwCl[12]? = some (mX12_sharesIt.1.cls, TX12, 55) ∧ Cond.methodLink RX12 416 mX12_sharesIt.1 ∈ gT ∧ Cond.instanceMethod mX12_sharesIt.1 ∈ gT ∧ Cond.selects mX12_sharesIt.1.cls mX12_sharesIt.1 mX12_sharesIt.1 ∈ gT := ⟨rfl, gT_in 1658 (by decide +kernel) rfl, gT_in 1660 (by decide +kernel) rfl, gT_in 74 (by decide +kernel) rfl⟩
theorem sX12_407 : vwCl[12]? = some (mX12_plainShares.1.cls, TX12, 55) ∧ Cond.methodLink RX12 407 mX12_plainShares.1 ∈ gT ∧ Cond.instanceMethod mX12_plainShares.1 ∈ gT ∧ Cond.selects mX12_plainShares.1.cls mX12_plainShares.1 mX12_plainShares.1 ∈ gT := ⟨rfl, gT_in 1662 (by decide +kernel) rfl, gT_in 1664 (by decide +kernel) rfl, gT_in 75 (by decide +kernel) rfl⟩
theorem sX12_419 : vwCl[12]? = some (mX12_tellsIt.1.cls, TX12, 55) ∧ Cond.methodLink RX12 419 mX12_tellsIt.1 ∈ gT ∧ Cond.instanceMethod mX12_tellsIt.1 ∈ gT ∧ Cond.selects mX12_tellsIt.1.cls mX12_tellsIt.1 mX12_tellsIt.1 ∈ gT := ⟨rfl, gT_in 1666 (by decide +kernel) rfl, gT_in 1668 (by decide +kernel) rfl, gT_in 76 (by decide +kernel) rfl⟩
theorem sX12_413 : vwCl[12]? = some (mX12_plainTells.1.cls, TX12, 55) ∧ Cond.methodLink RX12 413 mX12_plainTells.1 ∈ gT ∧ Cond.instanceMethod mX12_plainTells.1 ∈ gT ∧ Cond.selects mX12_plainTells.1.cls mX12_plainTells.1 mX12_plainTells.1 ∈ gT := ⟨rfl, gT_in 1670 (by decide +kernel) rfl, gT_in 1672 (by decide +kernel) rfl, gT_in 77 (by decide +kernel) rfl⟩
theorem sL_184 : vwCl[12]? = some (mX12_trace.1.cls, TX12, 55) ∧ Cond.methodLink RL 184 mX12_trace.1 ∈ gT ∧ Cond.instanceMethod mX12_trace.1 ∈ gT ∧ Cond.selects mX12_trace.1.cls mX12_trace.1 mX12_trace.1 ∈ gT := ⟨rfl, gT_in 1674 (by decide +kernel) rfl, gT_in 1675 (by decide +kernel) rfl, gT_in 1676 (by decide +kernel) rfl⟩
theorem sL_188 : vwCl[12]? = some (mX12_many.1.cls, TX12, 55) ∧ Cond.methodLink RL 188 mX12_many.1 ∈ gT ∧ Cond.instanceMethod mX12_many.1 ∈ gT ∧ Cond.selects mX12_many.1.cls mX12_many.1 mX12_many.1 ∈ gT := ⟨rfl, gT_in 1678 (by decide +kernel) rfl, gT_in 1679 (by decide +kernel) rfl, gT_in 1680 (by decide +kernel) rfl⟩
theorem sL_192 : vwCl[12]? = some (mX12_keep.1.cls, TX12, 55) ∧ Cond.methodLink RL 192 mX12_keep.1 ∈ gT ∧ Cond.instanceMethod mX12_keep.1 ∈ gT ∧ Cond.selects mX12_keep.1.cls mX12_keep.1 mX12_keep.1 ∈ gT := ⟨rfl, gT_in 1682 (by decide +kernel) rfl, gT_in 1683 (by decide +kernel) rfl, gT_in 1684 (by decide +kernel) rfl⟩
theorem sX12_429 : vwCl[12]? = some (mX12_moveAll.1.cls, TX12, 55) ∧ Cond.methodLink RX12 429 mX12_moveAll.1 ∈ gT ∧ Cond.instanceMethod mX12_moveAll.1 ∈ gT ∧ Cond.selects mX12_moveAll.1.cls mX12_moveAll.1 mX12_moveAll.1 ∈ gT := ⟨rfl, gT_in 1686 (by decide +kernel) rfl, gT_in 1688 (by decide +kernel) rfl, gT_in 78 (by decide +kernel) rfl⟩
theorem sX12_425 : vwCl[12]? = some (mX12_moveRow.1.cls, TX12, 55) ∧ Cond.methodLink RX12 425 mX12_moveRow.1 ∈ gT ∧ Cond.instanceMethod mX12_moveRow.1 ∈ gT ∧ Cond.selects mX12_moveRow.1.cls mX12_moveRow.1 mX12_moveRow.1 ∈ gT := ⟨rfl, gT_in 1690 (by decide +kernel) rfl, gT_in 1692 (by decide +kernel) rfl, gT_in 79 (by decide +kernel) rfl⟩
theorem sL_196 : vwCl[12]? = some (mX12_again.1.cls, TX12, 55) ∧ Cond.methodLink RL 196 mX12_again.1 ∈ gT ∧ Cond.instanceMethod mX12_again.1 ∈ gT ∧ Cond.selects mX12_again.1.cls mX12_again.1 mX12_again.1 ∈ gT := ⟨rfl, gT_in 1694 (by decide +kernel) rfl, gT_in 1695 (by decide +kernel) rfl, gT_in 1696 (by decide +kernel) rfl⟩
theorem kL_13 : Cond.constantLong RL 13 (4294967295) ∈ gT := gT_in 1698 (by decide +kernel) rfl
theorem ka_int : Cond.arrayClass .int ∈ gT := gT_in 200 (by decide +kernel) rfl
theorem ka_long : Cond.arrayClass .long ∈ gT := gT_in 254 (by decide +kernel) rfl
theorem ka_byte : Cond.arrayClass .byte ∈ gT := gT_in 230 (by decide +kernel) rfl
