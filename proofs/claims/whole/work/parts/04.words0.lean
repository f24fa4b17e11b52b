theorem wl_X0 : ∀ w ∈ u_ws RX0 TX0 3, w ∈ gx_ws := fun w h => gx_in (List.mem_of_elem_eq_true (by revert w h; decide +kernel)) (by revert w h; decide +kernel)
theorem wk_X0 : gx_clOk 0 RX0 TX0 3 tyX0 := ⟨rfl, wl_X0, tyX0_ok, nmX0⟩
theorem wl_X1 : ∀ w ∈ u_ws RX1 TX1 3, w ∈ gx_ws := fun w h => gx_in (List.mem_of_elem_eq_true (by revert w h; decide +kernel)) (by revert w h; decide +kernel)
theorem wk_X1 : gx_clOk 1 RX1 TX1 3 tyX1 := ⟨rfl, wl_X1, tyX1_ok, nmX1⟩
theorem wl_X2 : ∀ w ∈ u_ws RX2 TX2 4, w ∈ gx_ws := fun w h => gx_in (List.mem_of_elem_eq_true (by revert w h; decide +kernel)) (by revert w h; decide +kernel)
theorem wk_X2 : gx_clOk 2 RX2 TX2 4 tyX2 := ⟨rfl, wl_X2, tyX2_ok, nmX2⟩
theorem wl_X3 : ∀ w ∈ u_ws RX3 TX3 2, w ∈ gx_ws := fun w h => gx_in (List.mem_of_elem_eq_true (by revert w h; decide +kernel)) (by revert w h; decide +kernel)
theorem wk_X3 : gx_clOk 3 RX3 TX3 2 tyX3 := ⟨rfl, wl_X3, tyX3_ok, nmX3⟩
theorem wl_X4 : ∀ w ∈ u_ws RX4 TX4 10, w ∈ gx_ws := fun w h => gx_in (List.mem_of_elem_eq_true (by revert w h; decide +kernel)) (by revert w h; decide +kernel)
theorem wk_X4 : gx_clOk 4 RX4 TX4 10 tyX4 := ⟨rfl, wl_X4, tyX4_ok, nmX4⟩
theorem wl_X5 : ∀ w ∈ u_ws RX5 TX5 11, w ∈ gx_ws := fun w h => gx_in (List.mem_of_elem_eq_true (by revert w h; decide +kernel)) (by revert w h; decide +kernel)
theorem wk_X5 : gx_clOk 5 RX5 TX5 11 tyX5 := ⟨rfl, wl_X5, tyX5_ok, nmX5⟩
theorem wl_X6 : ∀ w ∈ u_ws RX6 TX6 9, w ∈ gx_ws := fun w h => gx_in (List.mem_of_elem_eq_true (by revert w h; decide +kernel)) (by revert w h; decide +kernel)
theorem wk_X6 : gx_clOk 6 RX6 TX6 9 tyX6 := ⟨rfl, wl_X6, tyX6_ok, nmX6⟩
theorem wl_X7 : ∀ w ∈ u_ws RX7 TX7 30, w ∈ gx_ws := fun w h => gx_in (List.mem_of_elem_eq_true (by revert w h; decide +kernel)) (by revert w h; decide +kernel)
theorem wk_X7 : gx_clOk 7 RX7 TX7 30 tyX7 := ⟨rfl, wl_X7, tyX7_ok, nmX7⟩
def mX0_init : gx_M := (RX0, cX0_init, 1, none, true)
def mX1_init : gx_M := (RX1, cX1_init, 1, none, true)
def mX1_makeNew : gx_M := (RX1, cX1_makeNew, 3, none, false)
def mX1_isNothing : gx_M := (RX1, cX1_isNothing, 1, (some .boolean), false)
def mX1_faultAt : gx_M := (RX1, cX1_faultAt, 2, (some .int), false)
def mX1_faultAtPair : gx_M := (RX1, cX1_faultAtPair, 4, (some .int), false)
def mX1_lowestBits : gx_M := (RX1, cX1_lowestBits, 2, (some .int), false)
def mX2_init : gx_M := (RX2, cX2_init, 1, none, true)
def mX2_become : gx_M := (RX2, cX2_become, 2, none, false)
def mX2_add : gx_M := (RX2, cX2_add, 4, none, false)
def mX2_lastDay : gx_M := (RX2, cX2_lastDay, 3, (some .int), false)
def mX2_fits : gx_M := (RX2, cX2_fits, 4, (some .boolean), false)
def mX3_init : gx_M := (RX3, cX3_init, 1, none, true)
def mX4_init : gx_M := (RX4, cX4_init, 1, none, true)
def mX4_takesAll : gx_M := (RX4, cX4_takesAll, 1, (some .boolean), false)
def mX4_refuses : gx_M := (RX4, cX4_refuses, 2, (some .boolean), false)
def mX4_takesLine : gx_M := (RX4, cX4_takesLine, 2, (some .boolean), false)
def mX4_takesGlove : gx_M := (RX4, cX4_takesGlove, 3, (some .boolean), false)
def mX4_takesRoute : gx_M := (RX4, cX4_takesRoute, 2, (some .boolean), false)
def mX4_takesMan : gx_M := (RX4, cX4_takesMan, 1, (some .boolean), false)
def mX4_takesRow : gx_M := (RX4, cX4_takesRow, 3, (some .boolean), false)
def mX4_takesNumber : gx_M := (RX4, cX4_takesNumber, 2, (some .boolean), false)
def mX4_takesMark : gx_M := (RX4, cX4_takesMark, 1, (some .boolean), false)
def mX4_readsToken : gx_M := (RX4, cX4_readsToken, 2, (some .boolean), false)
def mX4_readsWord : gx_M := (RX4, cX4_readsWord, 1, (some .boolean), false)
def mX4_readsNumber : gx_M := (RX4, cX4_readsNumber, 1, (some .boolean), false)
def mX4_isLetter : gx_M := (RX4, cX4_isLetter, 1, (some .boolean), false)
def mX4_isFigure : gx_M := (RX4, cX4_isFigure, 1, (some .boolean), false)
def mX4_wordRead : gx_M := (RX4, cX4_wordRead, 2, (some .int), false)
def mX4_isSpelled : gx_M := (RX4, cX4_isSpelled, 3, (some .boolean), false)
def mX4_spellingOf : gx_M := (RX4, cX4_spellingOf, 1, (some (.object "java/lang/String")), false)
def mX5_init : gx_M := (RX5, cX5_init, 1, none, true)
def mX5_makeEmpty : gx_M := (RX5, cX5_makeEmpty, 1, none, false)
def mX5_become : gx_M := (RX5, cX5_become, 2, none, false)
def mX5_partOf : gx_M := (RX5, cX5_partOf, 3, (some .int), false)
def mX5_putPart : gx_M := (RX5, cX5_putPart, 4, none, false)
def mX5_isPaired : gx_M := (RX5, cX5_isPaired, 2, (some .boolean), false)
def mX5_isCold : gx_M := (RX5, cX5_isCold, 2, (some .boolean), false)
def mX5_coldOnes : gx_M := (RX5, cX5_coldOnes, 3, (some .int), false)
def mX5_glovesAt : gx_M := (RX5, cX5_glovesAt, 4, (some .int), false)
def mX5_metCount : gx_M := (RX5, cX5_metCount, 1, (some .int), false)
def mX5_leaveOutCall : gx_M := (RX5, cX5_leaveOutCall, 3, none, false)
def mX5_stepOf : gx_M := (RX5, cX5_stepOf, 4, (some .int), false)
def mX5_moveMan : gx_M := (RX5, cX5_moveMan, 3, none, false)
def mX5_passDays : gx_M := (RX5, cX5_passDays, 3, none, false)
def mX5_passDay : gx_M := (RX5, cX5_passDay, 3, none, false)
def mX5_passDayOfGlove : gx_M := (RX5, cX5_passDayOfGlove, 2, none, false)
def mX6_init : gx_M := (RX6, cX6_init, 2, none, true)
def mX6_feed : gx_M := (RX6, cX6_feed, 3, (some .int), false)
def mX6_end : gx_M := (RX6, cX6_end, 4, (some .int), false)
def mX6_text : gx_M := (RX6, cX6_text, 3, (some .int), false)
def mX6_fault : gx_M := (RX6, cX6_fault, 1, (some .int), false)
def mX6_rule : gx_M := (RX6, cX6_rule, 2, (some .int), false)
def mX6_glove : gx_M := (RX6, cX6_glove, 3, (some .int), false)
def mX6_door : gx_M := (RX6, cX6_door, 3, (some .int), false)
def mX6_stop : gx_M := (RX6, cX6_stop, 2, (some .int), false)
def mX6_alter : gx_M := (RX6, cX6_alter, 6, (some .int), false)
def mX6_fame : gx_M := (RX6, cX6_fame, 4, (some .int), false)
def mX6_leave : gx_M := (RX6, cX6_leave, 2, (some .int), false)
def mX6_go : gx_M := (RX6, cX6_go, 3, (some .int), false)
def mX6_call : gx_M := (RX6, cX6_call, 2, (some .int), false)
def mX6_cut : gx_M := (RX6, cX6_cut, 3, (some .int), false)
def mX6_days : gx_M := (RX6, cX6_days, 3, (some .int), false)
def mX6_runs : gx_M := (RX6, cX6_runs, 3, (some .int), false)
def mX6_ahead : gx_M := (RX6, cX6_ahead, 4, (some .int), false)
def mX6_meets : gx_M := (RX6, cX6_meets, 2, (some .int), false)
def mX6_place : gx_M := (RX6, cX6_place, 4, (some .int), false)
def mX6_extra : gx_M := (RX6, cX6_extra, 3, (some .int), false)
def mX6_swap : gx_M := (RX6, cX6_swap, 8, (some .int), false)
def mX6_shun : gx_M := (RX6, cX6_shun, 6, (some .int), false)
def mX6_need : gx_M := (RX6, cX6_need, 3, (some .int), false)
def mX6_kind : gx_M := (RX6, cX6_kind, 4, (some .int), false)
def mX6_drop : gx_M := (RX6, cX6_drop, 4, (some .int), false)
def mX6_luck : gx_M := (RX6, cX6_luck, 5, (some .long), false)
def mX6_mean : gx_M := (RX6, cX6_mean, 4, (some .long), false)
def mX6_see : gx_M := (RX6, cX6_see, 4, (some .int), false)
def mX6_forget : gx_M := (RX6, cX6_forget, 3, (some .int), false)
def mX6_kinds : gx_M := (RX6, cX6_kinds, 2, (some .int), false)
def mX6_doors : gx_M := (RX6, cX6_doors, 2, (some .int), false)
def mX6_ask : gx_M := (RX6, cX6_ask, 9, (some .int), false)
def mX6_drift : gx_M := (RX6, cX6_drift, 6, (some .int), false)
def mX6_keep : gx_M := (RX6, cX6_keep, 4, (some .int), false)
def mX6_back : gx_M := (RX6, cX6_back, 3, (some .int), false)
def mX6_sheet : gx_M := (RX6, cX6_sheet, 4, (some .int), false)
def mX6_lay : gx_M := (RX6, cX6_lay, 5, (some .int), false)
def mX6_read : gx_M := (RX6, cX6_read, 9, (some .int), false)
def mX6_torn : gx_M := (RX6, cX6_torn, 1, (some .int), false)
def mX6_count : gx_M := (RX6, cX6_count, 2, (some .int), false)
def mX6_isWithin : gx_M := (RX6, cX6_isWithin, 2, (some .boolean), false)
def mX6_isDoor : gx_M := (RX6, cX6_isDoor, 1, (some .boolean), false)
def mX6_isSheet : gx_M := (RX6, cX6_isSheet, 1, (some .boolean), false)
def mX6_isGlove : gx_M := (RX6, cX6_isGlove, 2, (some .boolean), false)
def mX6_isCall : gx_M := (RX6, cX6_isCall, 2, (some .boolean), false)
def mX6_greatestOf : gx_M := (RX6, cX6_greatestOf, 1, (some .int), false)
def mX6_refusalOf : gx_M := (RX6, cX6_refusalOf, 4, (some .int), false)
def mX6_farOf : gx_M := (RX6, cX6_farOf, 3, (some .int), false)
def mX6_sumOf : gx_M := (RX6, cX6_sumOf, 4, (some .int), false)
def mX6_imagesKept : gx_M := (RX6, cX6_imagesKept, 3, (some .int), false)
def mX6_firstPairing : gx_M := (RX6, cX6_firstPairing, 4, (some .int), false)
def mX6_nameBehind : gx_M := (RX6, cX6_nameBehind, 2, (some .int), false)
def mX6_nameWithSwap : gx_M := (RX6, cX6_nameWithSwap, 4, (some .int), false)
def mX6_bestDoorOfCall : gx_M := (RX6, cX6_bestDoorOfCall, 8, (some .int), false)
def mX6_mostNamedPart : gx_M := (RX6, cX6_mostNamedPart, 8, (some .int), false)
def mX6_partsAsSeen : gx_M := (RX6, cX6_partsAsSeen, 5, (some .int), false)
def mX6_trialGoesAsSeen : gx_M := (RX6, cX6_trialGoesAsSeen, 3, (some .boolean), false)
def mX6_mostAtOneDoor : gx_M := (RX6, cX6_mostAtOneDoor, 7, (some .int), false)
def mX6_fractionByOdds : gx_M := (RX6, cX6_fractionByOdds, 11, (some .long), false)
def mX6_weighedBranches : gx_M := (RX6, cX6_weighedBranches, 9, (some .long), false)
def mX6_commonDivisor : gx_M := (RX6, cX6_commonDivisor, 11, (some .long), false)
def mX7_init : gx_M := (RX7, cX7_init, 2, none, true)
def mX7_in : gx_M := (RX7, cX7_in, 6, (some .boolean), false)
def mX7_flag : gx_M := (RX7, cX7_flag, 1, (some .int), false)
def mX7_lesser : gx_M := (RX7, cX7_lesser, 2, (some .int), false)
def mX7_firstDraft : gx_M := (RX7, cX7_firstDraft, 2, none, false)
def mX7_keepDraft : gx_M := (RX7, cX7_keepDraft, 2, none, false)
def mX7_feed : gx_M := (RX7, cX7_feed, 2, (some .int), false)
def mX7_end : gx_M := (RX7, cX7_end, 3, (some .int), false)
def mX7_requires : gx_M := (RX7, cX7_requires, 3, none, false)
def mX7_byteAt : gx_M := (RX7, cX7_byteAt, 2, (some .int), false)
def mX7_is : gx_M := (RX7, cX7_is, 5, (some .boolean), false)
def mX7_endsIn : gx_M := (RX7, cX7_endsIn, 4, (some .boolean), false)
def mX7_lineNow : gx_M := (RX7, cX7_lineNow, 1, (some .int), false)
def mX7_reads : gx_M := (RX7, cX7_reads, 2, none, false)
def mX7_looked : gx_M := (RX7, cX7_looked, 3, (some .int), false)
def mX7_readNumber : gx_M := (RX7, cX7_readNumber, 4, (some .int), false)
def mX7_readFames : gx_M := (RX7, cX7_readFames, 1, none, false)
def mX7_readRoute : gx_M := (RX7, cX7_readRoute, 1, none, false)
def mX7_readLineOf : gx_M := (RX7, cX7_readLineOf, 2, none, false)
def mX7_wasTold : gx_M := (RX7, cX7_wasTold, 2, (some .boolean), false)
def mX7_readLine : gx_M := (RX7, cX7_readLine, 2, none, false)
def mX7_text : gx_M := (RX7, cX7_text, 2, (some .int), false)
def mX7_fault : gx_M := (RX7, cX7_fault, 1, (some .int), false)
def mX7_isGlove : gx_M := (RX7, cX7_isGlove, 2, (some .boolean), false)
def mX7_isDoor : gx_M := (RX7, cX7_isDoor, 1, (some .boolean), false)
def mX7_isCall : gx_M := (RX7, cX7_isCall, 2, (some .boolean), false)
def mX7_isPart : gx_M := (RX7, cX7_isPart, 1, (some .boolean), false)
def mX7_starts : gx_M := (RX7, cX7_starts, 2, none, false)
def mX7_settles : gx_M := (RX7, cX7_settles, 2, none, false)
def mX7_of : gx_M := (RX7, cX7_of, 3, (some .int), false)
def mX7_becomesOf : gx_M := (RX7, cX7_becomesOf, 4, none, false)
def mX7_isPaired : gx_M := (RX7, cX7_isPaired, 2, (some .boolean), false)
def mX7_isCold : gx_M := (RX7, cX7_isCold, 2, (some .boolean), false)
def mX7_doorOf : gx_M := (RX7, cX7_doorOf, 2, (some .int), false)
def mX7_apart : gx_M := (RX7, cX7_apart, 3, (some .int), false)
def mX7_stepOf : gx_M := (RX7, cX7_stepOf, 6, (some .int), false)
def mX7_gloveGoes : gx_M := (RX7, cX7_gloveGoes, 3, none, false)
def mX7_dayGoesAt : gx_M := (RX7, cX7_dayGoesAt, 3, none, false)
def mX7_nextDoor : gx_M := (RX7, cX7_nextDoor, 1, (some .int), false)
def mX7_daysGo : gx_M := (RX7, cX7_daysGo, 3, none, false)
def mX7_nameMore : gx_M := (RX7, cX7_nameMore, 1, (some .int), false)
def mX7_nameBehind : gx_M := (RX7, cX7_nameBehind, 2, (some .int), false)
def mX7_pairedNow : gx_M := (RX7, cX7_pairedNow, 3, (some .int), false)
def mX7_coldNow : gx_M := (RX7, cX7_coldNow, 3, (some .int), false)
def mX7_metMany : gx_M := (RX7, cX7_metMany, 3, (some .int), false)
def mX7_metBehind : gx_M := (RX7, cX7_metBehind, 2, (some .int), false)
def mX7_rule : gx_M := (RX7, cX7_rule, 2, (some .int), false)
def mX7_glove : gx_M := (RX7, cX7_glove, 3, (some .int), false)
def mX7_door : gx_M := (RX7, cX7_door, 5, (some .int), false)
def mX7_stop : gx_M := (RX7, cX7_stop, 2, (some .int), false)
def mX7_becomes : gx_M := (RX7, cX7_becomes, 4, (some .int), false)
def mX7_wasPaired : gx_M := (RX7, cX7_wasPaired, 2, (some .boolean), false)
def mX7_alter : gx_M := (RX7, cX7_alter, 5, (some .int), false)
def mX7_fame : gx_M := (RX7, cX7_fame, 3, (some .int), false)
def mX7_leave : gx_M := (RX7, cX7_leave, 2, (some .int), false)
def mX7_go : gx_M := (RX7, cX7_go, 2, (some .int), false)
def mX7_call : gx_M := (RX7, cX7_call, 2, (some .int), false)
def mX7_cut : gx_M := (RX7, cX7_cut, 2, (some .int), false)
def mX7_days : gx_M := (RX7, cX7_days, 3, (some .int), false)
def mX7_isFar : gx_M := (RX7, cX7_isFar, 1, (some .boolean), false)
def mX7_runs : gx_M := (RX7, cX7_runs, 6, (some .int), false)
def mX7_ahead : gx_M := (RX7, cX7_ahead, 4, (some .int), false)
def mX7_meets : gx_M := (RX7, cX7_meets, 3, (some .int), false)
def mX7_startsJudging : gx_M := (RX7, cX7_startsJudging, 2, none, false)
def mX7_judges : gx_M := (RX7, cX7_judges, 3, none, false)
def mX7_judged : gx_M := (RX7, cX7_judged, 2, (some .int), false)
def mX7_place : gx_M := (RX7, cX7_place, 5, (some .int), false)
def mX7_extra : gx_M := (RX7, cX7_extra, 4, (some .int), false)
def mX7_swap : gx_M := (RX7, cX7_swap, 5, (some .int), false)
def mX7_shun : gx_M := (RX7, cX7_shun, 5, (some .int), false)
def mX7_need : gx_M := (RX7, cX7_need, 4, (some .int), false)
def mX7_kind : gx_M := (RX7, cX7_kind, 5, (some .int), false)
def mX7_drop : gx_M := (RX7, cX7_drop, 5, (some .int), false)
def mX7_common : gx_M := (RX7, cX7_common, 10, (some .long), false)
def mX7_told : gx_M := (RX7, cX7_told, 7, (some .long), false)
def mX7_findOdds : gx_M := (RX7, cX7_findOdds, 9, none, false)
def mX7_luck : gx_M := (RX7, cX7_luck, 5, (some .long), false)
def mX7_mean : gx_M := (RX7, cX7_mean, 4, (some .long), false)
def mX7_see : gx_M := (RX7, cX7_see, 5, (some .int), false)
def mX7_forget : gx_M := (RX7, cX7_forget, 2, (some .int), false)
def mX7_isSoWith : gx_M := (RX7, cX7_isSoWith, 6, (some .boolean), false)
def mX7_which : gx_M := (RX7, cX7_which, 5, (some .int), false)
def mX7_kinds : gx_M := (RX7, cX7_kinds, 2, (some .int), false)
def mX7_doors : gx_M := (RX7, cX7_doors, 2, (some .int), false)
def mX7_ask : gx_M := (RX7, cX7_ask, 11, (some .int), false)
def mX7_drift : gx_M := (RX7, cX7_drift, 6, (some .int), false)
def mX7_copies : gx_M := (RX7, cX7_copies, 4, none, false)
def mX7_keep : gx_M := (RX7, cX7_keep, 3, (some .int), false)
def mX7_back : gx_M := (RX7, cX7_back, 2, (some .int), false)
def mX7_isSheet : gx_M := (RX7, cX7_isSheet, 2, (some .boolean), false)
def mX7_sheet : gx_M := (RX7, cX7_sheet, 5, (some .int), false)
def mX7_lay : gx_M := (RX7, cX7_lay, 4, (some .int), false)
def mX7_read : gx_M := (RX7, cX7_read, 11, (some .int), false)
def mX7_torn : gx_M := (RX7, cX7_torn, 1, (some .int), false)
def mX7_count : gx_M := (RX7, cX7_count, 5, (some .int), false)
def mJ6_bitCount_0f7a4 : gx_M := (RJ6, cJ6_bitCount_0f7a4, 1, (some .int), false)
def mJ9_max_7cf53 : gx_M := (RJ9, cJ9_max_7cf53, 2, (some .int), false)
def mJ9_max_f86c9 : gx_M := (RJ9, cJ9_max_f86c9, 4, (some .long), false)
def mJ9_min_7cf53 : gx_M := (RJ9, cJ9_min_7cf53, 2, (some .int), false)
def mJ0_length_8abf5 : gx_M := (RJ0, cJ0_length_8abf5, 1, (some .int), false)
def mJ0_charAt_5068e : gx_M := (RJ0, cJ0_charAt_5068e, 2, (some .char), false)
def mJ0_coder_7d493 : gx_M := (RJ0, cJ0_coder_7d493, 1, (some .byte), false)
def mJ0_isLatin1_aae02 : gx_M := (RJ0, cJ0_isLatin1_aae02, 1, (some .boolean), false)
def mJ0_checkIndex_df160 : gx_M := (RJ0, cJ0_checkIndex_df160, 2, none, false)
def mJ1_charAt_3b067 : gx_M := (RJ1, cJ1_charAt_3b067, 2, (some .char), false)
def mJ2_getChar_3b067 : gx_M := (RJ2, cJ2_getChar_3b067, 2, (some .char), false)
def mJ2_length_9d52b : gx_M := (RJ2, cJ2_length_9d52b, 1, (some .int), false)
def mJ2_charAt_3b067 : gx_M := (RJ2, cJ2_charAt_3b067, 2, (some .char), false)
def mJ2_checkIndex_2214a : gx_M := (RJ2, cJ2_checkIndex_2214a, 2, none, false)
def mJ7_fill_53178 : gx_M := (RJ7, cJ7_fill_53178, 4, none, false)
def mJ3_checkIndex_8e157 : gx_M := (RJ3, cJ3_checkIndex_8e157, 3, (some .int), false)
def mL_law : gx_M := (RL, cL_law, 4, (some .boolean), false)
theorem wc_X6_7 : Cond.classLink RX6 7 RX5 ∈ gx_ws := gx_in (List.mem_of_getElem? (i := 96) (by decide +kernel)) rfl
theorem wc_X6_37 : Cond.classLink RX6 37 RX0 ∈ gx_ws := gx_in (List.mem_of_getElem? (i := 238) (by decide +kernel)) rfl
theorem wc_X6_43 : Cond.classLink RX6 43 RX1 ∈ gx_ws := gx_in (List.mem_of_getElem? (i := 240) (by decide +kernel)) rfl
theorem wf_X6_10 : Cond.fieldLink RX6 10 (TX6 0).1 (TX6 0).2.1 (TX6 0).2.2.1 ∈ gx_ws := gx_in (List.mem_of_getElem? (i := 280) (by decide +kernel)) rfl
theorem wf_X6_19 : Cond.fieldLink RX6 19 (TX6 1).1 (TX6 1).2.1 (TX6 1).2.2.1 ∈ gx_ws := gx_in (List.mem_of_getElem? (i := 281) (by decide +kernel)) rfl
theorem wf_X6_23 : Cond.fieldLink RX6 23 (TX6 2).1 (TX6 2).2.1 (TX6 2).2.2.1 ∈ gx_ws := gx_in (List.mem_of_getElem? (i := 282) (by decide +kernel)) rfl
theorem wf_X6_26 : Cond.fieldLink RX6 26 (TX6 3).1 (TX6 3).2.1 (TX6 3).2.2.1 ∈ gx_ws := gx_in (List.mem_of_getElem? (i := 283) (by decide +kernel)) rfl
theorem wf_X6_33 : Cond.fieldLink RX6 33 (TX6 4).1 (TX6 4).2.1 (TX6 4).2.2.1 ∈ gx_ws := gx_in (List.mem_of_getElem? (i := 284) (by decide +kernel)) rfl
theorem wf_X6_39 : Cond.fieldLink RX6 39 (TX6 5).1 (TX6 5).2.1 (TX6 5).2.2.1 ∈ gx_ws := gx_in (List.mem_of_getElem? (i := 285) (by decide +kernel)) rfl
theorem wf_X6_45 : Cond.fieldLink RX6 45 (TX6 6).1 (TX6 6).2.1 (TX6 6).2.2.1 ∈ gx_ws := gx_in (List.mem_of_getElem? (i := 286) (by decide +kernel)) rfl
theorem wf_X6_55 : Cond.fieldLink RX6 55 (TX4 0).1 (TX4 0).2.1 (TX4 0).2.2.1 ∈ gx_ws := gx_in (List.mem_of_getElem? (i := 203) (by decide +kernel)) rfl
theorem wf_X6_59 : Cond.fieldLink RX6 59 (TX3 1).1 (TX3 1).2.1 (TX3 1).2.2.1 ∈ gx_ws := gx_in (List.mem_of_getElem? (i := 192) (by decide +kernel)) rfl
theorem wf_X6_65 : Cond.fieldLink RX6 65 (TX3 0).1 (TX3 0).2.1 (TX3 0).2.2.1 ∈ gx_ws := gx_in (List.mem_of_getElem? (i := 190) (by decide +kernel)) rfl
theorem wf_X6_73 : Cond.fieldLink RX6 73 (TX4 8).1 (TX4 8).2.1 (TX4 8).2.2.1 ∈ gx_ws := gx_in (List.mem_of_getElem? (i := 214) (by decide +kernel)) rfl
theorem wf_X6_76 : Cond.fieldLink RX6 76 (TX6 7).1 (TX6 7).2.1 (TX6 7).2.2.1 ∈ gx_ws := gx_in (List.mem_of_getElem? (i := 287) (by decide +kernel)) rfl
theorem wf_X6_79 : Cond.fieldLink RX6 79 (TX4 7).1 (TX4 7).2.1 (TX4 7).2.2.1 ∈ gx_ws := gx_in (List.mem_of_getElem? (i := 211) (by decide +kernel)) rfl
theorem wf_X6_82 : Cond.fieldLink RX6 82 (TX4 1).1 (TX4 1).2.1 (TX4 1).2.2.1 ∈ gx_ws := gx_in (List.mem_of_getElem? (i := 205) (by decide +kernel)) rfl
theorem wf_X6_89 : Cond.fieldLink RX6 89 (TX2 3).1 (TX2 3).2.1 (TX2 3).2.2.1 ∈ gx_ws := gx_in (List.mem_of_getElem? (i := 166) (by decide +kernel)) rfl
theorem wf_X6_92 : Cond.fieldLink RX6 92 (TX0 2).1 (TX0 2).2.1 (TX0 2).2.2.1 ∈ gx_ws := gx_in (List.mem_of_getElem? (i := 255) (by decide +kernel)) rfl
theorem wf_X6_96 : Cond.fieldLink RX6 96 (TX4 9).1 (TX4 9).2.1 (TX4 9).2.2.1 ∈ gx_ws := gx_in (List.mem_of_getElem? (i := 216) (by decide +kernel)) rfl
theorem wf_X6_99 : Cond.fieldLink RX6 99 (TX5 6).1 (TX5 6).2.1 (TX5 6).2.2.1 ∈ gx_ws := gx_in (List.mem_of_getElem? (i := 121) (by decide +kernel)) rfl
theorem wf_X6_102 : Cond.fieldLink RX6 102 (TX5 10).1 (TX5 10).2.1 (TX5 10).2.2.1 ∈ gx_ws := gx_in (List.mem_of_getElem? (i := 131) (by decide +kernel)) rfl
theorem wf_X6_105 : Cond.fieldLink RX6 105 (TX5 8).1 (TX5 8).2.1 (TX5 8).2.2.1 ∈ gx_ws := gx_in (List.mem_of_getElem? (i := 126) (by decide +kernel)) rfl
theorem wf_X6_108 : Cond.fieldLink RX6 108 (TX5 9).1 (TX5 9).2.1 (TX5 9).2.2.1 ∈ gx_ws := gx_in (List.mem_of_getElem? (i := 129) (by decide +kernel)) rfl
theorem wf_X6_111 : Cond.fieldLink RX6 111 (TX5 5).1 (TX5 5).2.1 (TX5 5).2.2.1 ∈ gx_ws := gx_in (List.mem_of_getElem? (i := 118) (by decide +kernel)) rfl
theorem wf_X6_118 : Cond.fieldLink RX6 118 (TX5 7).1 (TX5 7).2.1 (TX5 7).2.2.1 ∈ gx_ws := gx_in (List.mem_of_getElem? (i := 124) (by decide +kernel)) rfl
theorem wf_X6_132 : Cond.fieldLink RX6 132 (TX5 2).1 (TX5 2).2.1 (TX5 2).2.2.1 ∈ gx_ws := gx_in (List.mem_of_getElem? (i := 110) (by decide +kernel)) rfl
theorem wf_X6_146 : Cond.fieldLink RX6 146 (TX5 0).1 (TX5 0).2.1 (TX5 0).2.2.1 ∈ gx_ws := gx_in (List.mem_of_getElem? (i := 104) (by decide +kernel)) rfl
theorem wf_X6_155 : Cond.fieldLink RX6 155 (TX5 4).1 (TX5 4).2.1 (TX5 4).2.2.1 ∈ gx_ws := gx_in (List.mem_of_getElem? (i := 116) (by decide +kernel)) rfl
theorem wf_X6_176 : Cond.fieldLink RX6 176 (TX5 3).1 (TX5 3).2.1 (TX5 3).2.2.1 ∈ gx_ws := gx_in (List.mem_of_getElem? (i := 113) (by decide +kernel)) rfl
theorem wf_X6_222 : Cond.fieldLink RX6 222 (TX0 0).1 (TX0 0).2.1 (TX0 0).2.2.1 ∈ gx_ws := gx_in (List.mem_of_getElem? (i := 252) (by decide +kernel)) rfl
theorem wf_X6_225 : Cond.fieldLink RX6 225 (TX0 1).1 (TX0 1).2.1 (TX0 1).2.2.1 ∈ gx_ws := gx_in (List.mem_of_getElem? (i := 254) (by decide +kernel)) rfl
theorem wf_X6_239 : Cond.fieldLink RX6 239 (TX1 0).1 (TX1 0).2.1 (TX1 0).2.2.1 ∈ gx_ws := gx_in (List.mem_of_getElem? (i := 269) (by decide +kernel)) rfl
theorem wf_X6_248 : Cond.fieldLink RX6 248 (TX6 8).1 (TX6 8).2.1 (TX6 8).2.2.1 ∈ gx_ws := gx_in (List.mem_of_getElem? (i := 288) (by decide +kernel)) rfl
theorem wf_X6_257 : Cond.fieldLink RX6 257 (TX1 2).1 (TX1 2).2.1 (TX1 2).2.2.1 ∈ gx_ws := gx_in (List.mem_of_getElem? (i := 272) (by decide +kernel)) rfl
theorem wm_X6_1 : Cond.methodLink RX6 1 objectInit ∈ gx_ws := gx_in (List.mem_of_getElem? (i := 93) (by decide +kernel)) rfl
theorem wn_X6_9 : (RX6, 9, yX5_init) ∈ gx_nest := by decide +kernel
theorem wn_X6_18 : (RX6, 18, yX2_init) ∈ gx_nest := by decide +kernel
theorem wn_X6_32 : (RX6, 32, yX4_init) ∈ gx_nest := by decide +kernel
theorem wn_X6_49 : (RX6, 49, yX0_init) ∈ gx_nest := by decide +kernel
theorem wn_X6_50 : (RX6, 50, yX1_init) ∈ gx_nest := by decide +kernel
theorem wm_X6_51 : Cond.methodLink RX6 51 yX6_isWithin ∈ gx_ws := gx_in (List.mem_of_getElem? (i := 312) (by decide +kernel)) rfl
theorem wm_X6_136 : Cond.methodLink RX6 136 yX6_farOf ∈ gx_ws := gx_in (List.mem_of_getElem? (i := 490) (by decide +kernel)) rfl
theorem wm_X6_143 : Cond.methodLink RX6 143 yX6_isDoor ∈ gx_ws := gx_in (List.mem_of_getElem? (i := 502) (by decide +kernel)) rfl
theorem wm_X6_207 : Cond.methodLink RX6 207 yJ6_bitCount_0f7a4 ∈ gx_ws := gx_in (List.mem_of_getElem? (i := 718) (by decide +kernel)) rfl
theorem wm_X6_229 : Cond.methodLink RX6 229 yX6_isSheet ∈ gx_ws := gx_in (List.mem_of_getElem? (i := 745) (by decide +kernel)) rfl
theorem wm_X6_260 : Cond.methodLink RX6 260 yX6_sumOf ∈ gx_ws := gx_in (List.mem_of_getElem? (i := 792) (by decide +kernel)) rfl
theorem wm_X6_264 : Cond.methodLink RX6 264 yX6_greatestOf ∈ gx_ws := gx_in (List.mem_of_getElem? (i := 525) (by decide +kernel)) rfl
theorem wm_X6_267 : Cond.methodLink RX6 267 yJ9_max_7cf53 ∈ gx_ws := gx_in (List.mem_of_getElem? (i := 600) (by decide +kernel)) rfl
theorem wm_X6_282 : Cond.methodLink RX6 282 yX6_weighedBranches ∈ gx_ws := gx_in (List.mem_of_getElem? (i := 662) (by decide +kernel)) rfl
theorem wm_X6_288 : Cond.methodLink RX6 288 yX6_commonDivisor ∈ gx_ws := gx_in (List.mem_of_getElem? (i := 667) (by decide +kernel)) rfl
theorem wm_X6_292 : Cond.methodLink RX6 292 yJ9_max_f86c9 ∈ gx_ws := gx_in (List.mem_of_getElem? (i := 670) (by decide +kernel)) rfl
theorem wm_X6_69 : Cond.methodLink RX6 69 yX4_takesAll ∈ gx_ws := gx_in (List.mem_of_getElem? (i := 323) (by decide +kernel)) rfl
theorem wm_X6_85 : Cond.methodLink RX6 85 yX5_become ∈ gx_ws := gx_in (List.mem_of_getElem? (i := 450) (by decide +kernel)) rfl
theorem wm_X6_114 : Cond.methodLink RX6 114 yX5_coldOnes ∈ gx_ws := gx_in (List.mem_of_getElem? (i := 465) (by decide +kernel)) rfl
theorem wm_X6_121 : Cond.methodLink RX6 121 yX6_isGlove ∈ gx_ws := gx_in (List.mem_of_getElem? (i := 481) (by decide +kernel)) rfl
theorem wm_X6_125 : Cond.methodLink RX6 125 yX5_partOf ∈ gx_ws := gx_in (List.mem_of_getElem? (i := 485) (by decide +kernel)) rfl
theorem wm_X6_129 : Cond.methodLink RX6 129 yX5_isPaired ∈ gx_ws := gx_in (List.mem_of_getElem? (i := 489) (by decide +kernel)) rfl
theorem wm_X6_139 : Cond.methodLink RX6 139 yX5_stepOf ∈ gx_ws := gx_in (List.mem_of_getElem? (i := 493) (by decide +kernel)) rfl
theorem wm_X6_149 : Cond.methodLink RX6 149 yX5_glovesAt ∈ gx_ws := gx_in (List.mem_of_getElem? (i := 505) (by decide +kernel)) rfl
theorem wm_X6_152 : Cond.methodLink RX6 152 yX6_isCall ∈ gx_ws := gx_in (List.mem_of_getElem? (i := 513) (by decide +kernel)) rfl
theorem wm_X6_158 : Cond.methodLink RX6 158 yX6_refusalOf ∈ gx_ws := gx_in (List.mem_of_getElem? (i := 521) (by decide +kernel)) rfl
theorem wm_X6_162 : Cond.methodLink RX6 162 yX5_putPart ∈ gx_ws := gx_in (List.mem_of_getElem? (i := 528) (by decide +kernel)) rfl
theorem wm_X6_166 : Cond.methodLink RX6 166 yX5_moveMan ∈ gx_ws := gx_in (List.mem_of_getElem? (i := 544) (by decide +kernel)) rfl
theorem wm_X6_170 : Cond.methodLink RX6 170 yX5_passDays ∈ gx_ws := gx_in (List.mem_of_getElem? (i := 560) (by decide +kernel)) rfl
theorem wm_X6_173 : Cond.methodLink RX6 173 yX6_firstPairing ∈ gx_ws := gx_in (List.mem_of_getElem? (i := 580) (by decide +kernel)) rfl
theorem wm_X6_179 : Cond.methodLink RX6 179 yX6_bestDoorOfCall ∈ gx_ws := gx_in (List.mem_of_getElem? (i := 596) (by decide +kernel)) rfl
theorem wm_X6_182 : Cond.methodLink RX6 182 yX6_nameBehind ∈ gx_ws := gx_in (List.mem_of_getElem? (i := 621) (by decide +kernel)) rfl
theorem wm_X6_185 : Cond.methodLink RX6 185 yX6_nameWithSwap ∈ gx_ws := gx_in (List.mem_of_getElem? (i := 625) (by decide +kernel)) rfl
theorem wm_X6_188 : Cond.methodLink RX6 188 yX5_leaveOutCall ∈ gx_ws := gx_in (List.mem_of_getElem? (i := 633) (by decide +kernel)) rfl
theorem wm_X6_191 : Cond.methodLink RX6 191 yX6_mostNamedPart ∈ gx_ws := gx_in (List.mem_of_getElem? (i := 645) (by decide +kernel)) rfl
theorem wm_X6_197 : Cond.methodLink RX6 197 yX6_fractionByOdds ∈ gx_ws := gx_in (List.mem_of_getElem? (i := 658) (by decide +kernel)) rfl
theorem wm_X6_201 : Cond.methodLink RX6 201 yX2_add ∈ gx_ws := gx_in (List.mem_of_getElem? (i := 681) (by decide +kernel)) rfl
theorem wm_X6_204 : Cond.methodLink RX6 204 yX6_partsAsSeen ∈ gx_ws := gx_in (List.mem_of_getElem? (i := 693) (by decide +kernel)) rfl
theorem wm_X6_212 : Cond.methodLink RX6 212 yX6_mostAtOneDoor ∈ gx_ws := gx_in (List.mem_of_getElem? (i := 719) (by decide +kernel)) rfl
theorem wm_X6_216 : Cond.methodLink RX6 216 yX5_passDay ∈ gx_ws := gx_in (List.mem_of_getElem? (i := 665) (by decide +kernel)) rfl
theorem wm_X6_219 : Cond.methodLink RX6 219 yX5_metCount ∈ gx_ws := gx_in (List.mem_of_getElem? (i := 603) (by decide +kernel)) rfl
theorem wm_X6_226 : Cond.methodLink RX6 226 yX2_become ∈ gx_ws := gx_in (List.mem_of_getElem? (i := 732) (by decide +kernel)) rfl
theorem wm_X6_232 : Cond.methodLink RX6 232 yX1_makeNew ∈ gx_ws := gx_in (List.mem_of_getElem? (i := 748) (by decide +kernel)) rfl
theorem wm_X6_236 : Cond.methodLink RX6 236 yX1_faultAt ∈ gx_ws := gx_in (List.mem_of_getElem? (i := 757) (by decide +kernel)) rfl
theorem wm_X6_242 : Cond.methodLink RX6 242 yX1_lowestBits ∈ gx_ws := gx_in (List.mem_of_getElem? (i := 766) (by decide +kernel)) rfl
theorem wm_X6_245 : Cond.methodLink RX6 245 yX1_faultAtPair ∈ gx_ws := gx_in (List.mem_of_getElem? (i := 774) (by decide +kernel)) rfl
theorem wm_X6_251 : Cond.methodLink RX6 251 yX6_imagesKept ∈ gx_ws := gx_in (List.mem_of_getElem? (i := 787) (by decide +kernel)) rfl
theorem wm_X6_254 : Cond.methodLink RX6 254 yX1_isNothing ∈ gx_ws := gx_in (List.mem_of_getElem? (i := 791) (by decide +kernel)) rfl
theorem wm_X6_272 : Cond.methodLink RX6 272 yX6_trialGoesAsSeen ∈ gx_ws := gx_in (List.mem_of_getElem? (i := 697) (by decide +kernel)) rfl
theorem wm_X6_275 : Cond.methodLink RX6 275 yX2_lastDay ∈ gx_ws := gx_in (List.mem_of_getElem? (i := 701) (by decide +kernel)) rfl
theorem wm_X6_278 : Cond.methodLink RX6 278 yX2_fits ∈ gx_ws := gx_in (List.mem_of_getElem? (i := 706) (by decide +kernel)) rfl
theorem wd_X6_215 : Cond.constant RX6 215 (1103515245) ∈ gx_ws := gx_in (List.mem_of_getElem? (i := 727) (by decide +kernel)) rfl
theorem wd_X6_195 : Cond.constantLong RX6 195 (-1) ∈ gx_ws := gx_in (List.mem_of_getElem? (i := 657) (by decide +kernel)) rfl
theorem wd_X6_286 : Cond.constantLong RX6 286 (10) ∈ gx_ws := gx_in (List.mem_of_getElem? (i := 666) (by decide +kernel)) rfl
theorem wc_X6_16 : Cond.classLink RX6 16 RX2 ∈ gx_ws := gx_in (List.mem_of_getElem? (i := 156) (by decide +kernel)) rfl
theorem wc_X6_30 : Cond.classLink RX6 30 RX4 ∈ gx_ws := gx_in (List.mem_of_getElem? (i := 177) (by decide +kernel)) rfl
theorem wm_X0_1 : Cond.methodLink RX0 1 objectInit ∈ gx_ws := gx_in (List.mem_of_getElem? (i := 246) (by decide +kernel)) rfl
theorem wn_X0_9 : (RX0, 9, yX5_init) ∈ gx_nest := by decide +kernel
theorem wn_X0_18 : (RX0, 18, yX2_init) ∈ gx_nest := by decide +kernel
theorem wc_X0_7 : Cond.classLink RX0 7 RX5 ∈ gx_ws := gx_in (List.mem_of_getElem? (i := 247) (by decide +kernel)) rfl
theorem wc_X0_16 : Cond.classLink RX0 16 RX2 ∈ gx_ws := gx_in (List.mem_of_getElem? (i := 249) (by decide +kernel)) rfl
theorem wf_X0_10 : Cond.fieldLink RX0 10 (TX0 0).1 (TX0 0).2.1 (TX0 0).2.2.1 ∈ gx_ws := gx_in (List.mem_of_getElem? (i := 251) (by decide +kernel)) rfl
theorem wf_X0_19 : Cond.fieldLink RX0 19 (TX0 1).1 (TX0 1).2.1 (TX0 1).2.2.1 ∈ gx_ws := gx_in (List.mem_of_getElem? (i := 253) (by decide +kernel)) rfl
theorem wf_X1_9 : Cond.fieldLink RX1 9 (TX1 0).1 (TX1 0).2.1 (TX1 0).2.2.1 ∈ gx_ws := gx_in (List.mem_of_getElem? (i := 268) (by decide +kernel)) rfl
theorem wf_X1_15 : Cond.fieldLink RX1 15 (TX1 1).1 (TX1 1).2.1 (TX1 1).2.2.1 ∈ gx_ws := gx_in (List.mem_of_getElem? (i := 270) (by decide +kernel)) rfl
theorem wf_X1_25 : Cond.fieldLink RX1 25 (TX1 2).1 (TX1 2).2.1 (TX1 2).2.2.1 ∈ gx_ws := gx_in (List.mem_of_getElem? (i := 271) (by decide +kernel)) rfl
theorem wm_X1_3 : Cond.methodLink RX1 3 objectInit ∈ gx_ws := gx_in (List.mem_of_getElem? (i := 267) (by decide +kernel)) rfl
theorem wm_X1_19 : Cond.methodLink RX1 19 yJ7_fill_53178 ∈ gx_ws := gx_in (List.mem_of_getElem? (i := 752) (by decide +kernel)) rfl
theorem wn_X1_32 : (RX1, 32, yX6_isWithin) ∈ gx_nest := by decide +kernel
theorem wm_X1_28 : Cond.methodLink RX1 28 yX1_isNothing ∈ gx_ws := gx_in (List.mem_of_getElem? (i := 761) (by decide +kernel)) rfl
theorem wm_X1_36 : Cond.methodLink RX1 36 yX1_faultAt ∈ gx_ws := gx_in (List.mem_of_getElem? (i := 778) (by decide +kernel)) rfl
theorem wf_X2_9 : Cond.fieldLink RX2 9 (TX2 0).1 (TX2 0).2.1 (TX2 0).2.2.1 ∈ gx_ws := gx_in (List.mem_of_getElem? (i := 162) (by decide +kernel)) rfl
theorem wf_X2_15 : Cond.fieldLink RX2 15 (TX2 1).1 (TX2 1).2.1 (TX2 1).2.2.1 ∈ gx_ws := gx_in (List.mem_of_getElem? (i := 163) (by decide +kernel)) rfl
theorem wf_X2_18 : Cond.fieldLink RX2 18 (TX2 2).1 (TX2 2).2.1 (TX2 2).2.2.1 ∈ gx_ws := gx_in (List.mem_of_getElem? (i := 164) (by decide +kernel)) rfl
theorem wf_X2_27 : Cond.fieldLink RX2 27 (TX2 3).1 (TX2 3).2.1 (TX2 3).2.2.1 ∈ gx_ws := gx_in (List.mem_of_getElem? (i := 165) (by decide +kernel)) rfl
theorem wf_X2_37 : Cond.fieldLink RX2 37 (TX5 2).1 (TX5 2).2.1 (TX5 2).2.2.1 ∈ gx_ws := gx_in (List.mem_of_getElem? (i := 108) (by decide +kernel)) rfl
theorem wm_X2_3 : Cond.methodLink RX2 3 objectInit ∈ gx_ws := gx_in (List.mem_of_getElem? (i := 161) (by decide +kernel)) rfl
theorem wm_X2_21 : Cond.methodLink RX2 21 arraycopyName ∈ gx_ws := gx_in (List.mem_of_getElem? (i := 736) (by decide +kernel)) rfl
theorem wm_X2_31 : Cond.methodLink RX2 31 yJ9_max_7cf53 ∈ gx_ws := gx_in (List.mem_of_getElem? (i := 705) (by decide +kernel)) rfl
theorem wm_X3_3 : Cond.methodLink RX3 3 objectInit ∈ gx_ws := gx_in (List.mem_of_getElem? (i := 188) (by decide +kernel)) rfl
theorem wf_X3_9 : Cond.fieldLink RX3 9 (TX3 0).1 (TX3 0).2.1 (TX3 0).2.2.1 ∈ gx_ws := gx_in (List.mem_of_getElem? (i := 189) (by decide +kernel)) rfl
theorem wf_X4_12 : Cond.fieldLink RX4 12 (TX4 0).1 (TX4 0).2.1 (TX4 0).2.2.1 ∈ gx_ws := gx_in (List.mem_of_getElem? (i := 202) (by decide +kernel)) rfl
theorem wf_X4_21 : Cond.fieldLink RX4 21 (TX4 1).1 (TX4 1).2.1 (TX4 1).2.2.1 ∈ gx_ws := gx_in (List.mem_of_getElem? (i := 204) (by decide +kernel)) rfl
theorem wf_X4_28 : Cond.fieldLink RX4 28 (TX4 2).1 (TX4 2).2.1 (TX4 2).2.2.1 ∈ gx_ws := gx_in (List.mem_of_getElem? (i := 206) (by decide +kernel)) rfl
theorem wf_X4_32 : Cond.fieldLink RX4 32 (TX4 5).1 (TX4 5).2.1 (TX4 5).2.2.1 ∈ gx_ws := gx_in (List.mem_of_getElem? (i := 209) (by decide +kernel)) rfl
theorem wf_X4_38 : Cond.fieldLink RX4 38 (TX4 9).1 (TX4 9).2.1 (TX4 9).2.2.1 ∈ gx_ws := gx_in (List.mem_of_getElem? (i := 215) (by decide +kernel)) rfl
theorem wf_X4_45 : Cond.fieldLink RX4 45 (TX4 3).1 (TX4 3).2.1 (TX4 3).2.2.1 ∈ gx_ws := gx_in (List.mem_of_getElem? (i := 207) (by decide +kernel)) rfl
theorem wf_X4_62 : Cond.fieldLink RX4 62 (TX5 0).1 (TX5 0).2.1 (TX5 0).2.2.1 ∈ gx_ws := gx_in (List.mem_of_getElem? (i := 103) (by decide +kernel)) rfl
theorem wf_X4_76 : Cond.fieldLink RX4 76 (TX5 6).1 (TX5 6).2.1 (TX5 6).2.2.1 ∈ gx_ws := gx_in (List.mem_of_getElem? (i := 120) (by decide +kernel)) rfl
theorem wf_X4_79 : Cond.fieldLink RX4 79 (TX5 1).1 (TX5 1).2.1 (TX5 1).2.2.1 ∈ gx_ws := gx_in (List.mem_of_getElem? (i := 106) (by decide +kernel)) rfl
theorem wf_X4_85 : Cond.fieldLink RX4 85 (TX5 2).1 (TX5 2).2.1 (TX5 2).2.2.1 ∈ gx_ws := gx_in (List.mem_of_getElem? (i := 109) (by decide +kernel)) rfl
theorem wf_X4_88 : Cond.fieldLink RX4 88 (TX4 4).1 (TX4 4).2.1 (TX4 4).2.2.1 ∈ gx_ws := gx_in (List.mem_of_getElem? (i := 208) (by decide +kernel)) rfl
theorem wf_X4_91 : Cond.fieldLink RX4 91 (TX5 3).1 (TX5 3).2.1 (TX5 3).2.2.1 ∈ gx_ws := gx_in (List.mem_of_getElem? (i := 112) (by decide +kernel)) rfl
theorem wf_X4_97 : Cond.fieldLink RX4 97 (TX5 4).1 (TX5 4).2.1 (TX5 4).2.2.1 ∈ gx_ws := gx_in (List.mem_of_getElem? (i := 115) (by decide +kernel)) rfl
theorem wf_X4_100 : Cond.fieldLink RX4 100 (TX4 6).1 (TX4 6).2.1 (TX4 6).2.2.1 ∈ gx_ws := gx_in (List.mem_of_getElem? (i := 210) (by decide +kernel)) rfl
theorem wf_X4_109 : Cond.fieldLink RX4 109 (TX3 1).1 (TX3 1).2.1 (TX3 1).2.2.1 ∈ gx_ws := gx_in (List.mem_of_getElem? (i := 193) (by decide +kernel)) rfl
theorem wf_X4_112 : Cond.fieldLink RX4 112 (TX3 0).1 (TX3 0).2.1 (TX3 0).2.2.1 ∈ gx_ws := gx_in (List.mem_of_getElem? (i := 191) (by decide +kernel)) rfl
theorem wf_X4_116 : Cond.fieldLink RX4 116 (TX4 7).1 (TX4 7).2.1 (TX4 7).2.2.1 ∈ gx_ws := gx_in (List.mem_of_getElem? (i := 212) (by decide +kernel)) rfl
theorem wm_X4_3 : Cond.methodLink RX4 3 objectInit ∈ gx_ws := gx_in (List.mem_of_getElem? (i := 182) (by decide +kernel)) rfl
theorem wn_X4_11 : (RX4, 11, yX3_init) ∈ gx_nest := by decide +kernel
theorem wn_X4_20 : (RX4, 20, yX5_init) ∈ gx_nest := by decide +kernel
theorem wm_X4_119 : Cond.methodLink RX4 119 yX4_isLetter ∈ gx_ws := gx_in (List.mem_of_getElem? (i := 338) (by decide +kernel)) rfl
theorem wm_X4_125 : Cond.methodLink RX4 125 yX4_isFigure ∈ gx_ws := gx_in (List.mem_of_getElem? (i := 345) (by decide +kernel)) rfl
theorem wm_X4_131 : Cond.methodLink RX4 131 yX4_spellingOf ∈ gx_ws := gx_in (List.mem_of_getElem? (i := 364) (by decide +kernel)) rfl
theorem wm_X4_25 : Cond.methodLink RX4 25 yX5_makeEmpty ∈ gx_ws := gx_in (List.mem_of_getElem? (i := 327) (by decide +kernel)) rfl
theorem wm_X4_41 : Cond.methodLink RX4 41 yX4_readsToken ∈ gx_ws := gx_in (List.mem_of_getElem? (i := 334) (by decide +kernel)) rfl
theorem wm_X4_48 : Cond.methodLink RX4 48 yX4_takesLine ∈ gx_ws := gx_in (List.mem_of_getElem? (i := 356) (by decide +kernel)) rfl
theorem wm_X4_51 : Cond.methodLink RX4 51 yX4_wordRead ∈ gx_ws := gx_in (List.mem_of_getElem? (i := 360) (by decide +kernel)) rfl
theorem wm_X4_55 : Cond.methodLink RX4 55 yX4_refuses ∈ gx_ws := gx_in (List.mem_of_getElem? (i := 352) (by decide +kernel)) rfl
theorem wm_X4_59 : Cond.methodLink RX4 59 yX4_takesGlove ∈ gx_ws := gx_in (List.mem_of_getElem? (i := 426) (by decide +kernel)) rfl
theorem wm_X4_66 : Cond.methodLink RX4 66 yX4_takesRow ∈ gx_ws := gx_in (List.mem_of_getElem? (i := 438) (by decide +kernel)) rfl
theorem wm_X4_70 : Cond.methodLink RX4 70 yX4_takesRoute ∈ gx_ws := gx_in (List.mem_of_getElem? (i := 442) (by decide +kernel)) rfl
theorem wm_X4_73 : Cond.methodLink RX4 73 yX4_takesMan ∈ gx_ws := gx_in (List.mem_of_getElem? (i := 446) (by decide +kernel)) rfl
theorem wm_X4_82 : Cond.methodLink RX4 82 yX4_takesNumber ∈ gx_ws := gx_in (List.mem_of_getElem? (i := 430) (by decide +kernel)) rfl
theorem wm_X4_94 : Cond.methodLink RX4 94 yX4_takesMark ∈ gx_ws := gx_in (List.mem_of_getElem? (i := 434) (by decide +kernel)) rfl
theorem wm_X4_122 : Cond.methodLink RX4 122 yX4_readsWord ∈ gx_ws := gx_in (List.mem_of_getElem? (i := 341) (by decide +kernel)) rfl
theorem wm_X4_128 : Cond.methodLink RX4 128 yX4_readsNumber ∈ gx_ws := gx_in (List.mem_of_getElem? (i := 348) (by decide +kernel)) rfl
theorem wm_X4_135 : Cond.methodLink RX4 135 yX4_isSpelled ∈ gx_ws := gx_in (List.mem_of_getElem? (i := 374) (by decide +kernel)) rfl
theorem wm_X4_139 : Cond.methodLink RX4 139 yJ0_length_8abf5 ∈ gx_ws := gx_in (List.mem_of_getElem? (i := 378) (by decide +kernel)) rfl
theorem wm_X4_143 : Cond.methodLink RX4 143 yJ0_charAt_5068e ∈ gx_ws := gx_in (List.mem_of_getElem? (i := 388) (by decide +kernel)) rfl
theorem wc_X4_9 : Cond.classLink RX4 9 RX3 ∈ gx_ws := gx_in (List.mem_of_getElem? (i := 183) (by decide +kernel)) rfl
theorem wc_X4_18 : Cond.classLink RX4 18 RX5 ∈ gx_ws := gx_in (List.mem_of_getElem? (i := 200) (by decide +kernel)) rfl
theorem wf_X4_35 : Cond.fieldLink RX4 35 (TX4 8).1 (TX4 8).2.1 (TX4 8).2.2.1 ∈ gx_ws := gx_in (List.mem_of_getElem? (i := 213) (by decide +kernel)) rfl
theorem wf_X4_103 : Cond.fieldLink RX4 103 (TX5 7).1 (TX5 7).2.1 (TX5 7).2.2.1 ∈ gx_ws := gx_in (List.mem_of_getElem? (i := 123) (by decide +kernel)) rfl
theorem wf_X4_106 : Cond.fieldLink RX4 106 (TX5 8).1 (TX5 8).2.1 (TX5 8).2.2.1 ∈ gx_ws := gx_in (List.mem_of_getElem? (i := 127) (by decide +kernel)) rfl
theorem wf_X5_9 : Cond.fieldLink RX5 9 (TX5 0).1 (TX5 0).2.1 (TX5 0).2.2.1 ∈ gx_ws := gx_in (List.mem_of_getElem? (i := 102) (by decide +kernel)) rfl
theorem wf_X5_15 : Cond.fieldLink RX5 15 (TX5 1).1 (TX5 1).2.1 (TX5 1).2.2.1 ∈ gx_ws := gx_in (List.mem_of_getElem? (i := 105) (by decide +kernel)) rfl
theorem wf_X5_18 : Cond.fieldLink RX5 18 (TX5 2).1 (TX5 2).2.1 (TX5 2).2.2.1 ∈ gx_ws := gx_in (List.mem_of_getElem? (i := 107) (by decide +kernel)) rfl
theorem wf_X5_21 : Cond.fieldLink RX5 21 (TX5 3).1 (TX5 3).2.1 (TX5 3).2.2.1 ∈ gx_ws := gx_in (List.mem_of_getElem? (i := 111) (by decide +kernel)) rfl
theorem wf_X5_24 : Cond.fieldLink RX5 24 (TX5 4).1 (TX5 4).2.1 (TX5 4).2.2.1 ∈ gx_ws := gx_in (List.mem_of_getElem? (i := 114) (by decide +kernel)) rfl
theorem wf_X5_33 : Cond.fieldLink RX5 33 (TX5 5).1 (TX5 5).2.1 (TX5 5).2.2.1 ∈ gx_ws := gx_in (List.mem_of_getElem? (i := 117) (by decide +kernel)) rfl
theorem wf_X5_37 : Cond.fieldLink RX5 37 (TX5 6).1 (TX5 6).2.1 (TX5 6).2.2.1 ∈ gx_ws := gx_in (List.mem_of_getElem? (i := 119) (by decide +kernel)) rfl
theorem wf_X5_40 : Cond.fieldLink RX5 40 (TX5 7).1 (TX5 7).2.1 (TX5 7).2.2.1 ∈ gx_ws := gx_in (List.mem_of_getElem? (i := 122) (by decide +kernel)) rfl
theorem wf_X5_43 : Cond.fieldLink RX5 43 (TX5 8).1 (TX5 8).2.1 (TX5 8).2.2.1 ∈ gx_ws := gx_in (List.mem_of_getElem? (i := 125) (by decide +kernel)) rfl
theorem wf_X5_46 : Cond.fieldLink RX5 46 (TX5 9).1 (TX5 9).2.1 (TX5 9).2.2.1 ∈ gx_ws := gx_in (List.mem_of_getElem? (i := 128) (by decide +kernel)) rfl
theorem wf_X5_49 : Cond.fieldLink RX5 49 (TX5 10).1 (TX5 10).2.1 (TX5 10).2.2.1 ∈ gx_ws := gx_in (List.mem_of_getElem? (i := 130) (by decide +kernel)) rfl
theorem wm_X5_3 : Cond.methodLink RX5 3 objectInit ∈ gx_ws := gx_in (List.mem_of_getElem? (i := 101) (by decide +kernel)) rfl
theorem wm_X5_27 : Cond.methodLink RX5 27 yJ7_fill_53178 ∈ gx_ws := gx_in (List.mem_of_getElem? (i := 331) (by decide +kernel)) rfl
theorem wm_X5_52 : Cond.methodLink RX5 52 arraycopyName ∈ gx_ws := gx_in (List.mem_of_getElem? (i := 454) (by decide +kernel)) rfl
theorem wm_X5_65 : Cond.methodLink RX5 65 yJ6_bitCount_0f7a4 ∈ gx_ws := gx_in (List.mem_of_getElem? (i := 607) (by decide +kernel)) rfl
theorem wn_X5_71 : (RX5, 71, yX6_farOf) ∈ gx_nest := by decide +kernel
theorem wm_X5_82 : Cond.methodLink RX5 82 yJ9_min_7cf53 ∈ gx_ws := gx_in (List.mem_of_getElem? (i := 572) (by decide +kernel)) rfl
theorem wm_X5_58 : Cond.methodLink RX5 58 yX5_isPaired ∈ gx_ws := gx_in (List.mem_of_getElem? (i := 473) (by decide +kernel)) rfl
theorem wm_X5_62 : Cond.methodLink RX5 62 yX5_isCold ∈ gx_ws := gx_in (List.mem_of_getElem? (i := 469) (by decide +kernel)) rfl
theorem wm_X5_75 : Cond.methodLink RX5 75 yX5_passDay ∈ gx_ws := gx_in (List.mem_of_getElem? (i := 564) (by decide +kernel)) rfl
theorem wm_X5_79 : Cond.methodLink RX5 79 yX5_passDayOfGlove ∈ gx_ws := gx_in (List.mem_of_getElem? (i := 568) (by decide +kernel)) rfl
theorem wm_X5_87 : Cond.methodLink RX5 87 yX5_stepOf ∈ gx_ws := gx_in (List.mem_of_getElem? (i := 575) (by decide +kernel)) rfl
theorem wm_L_9 : Cond.methodLink RL 9 yX6_init ∈ gx_ws := gx_in (List.mem_of_getElem? (i := 90) (by decide +kernel)) rfl
theorem wm_L_12 : Cond.methodLink RL 12 yX7_init ∈ gx_ws := gx_in (List.mem_of_getElem? (i := 797) (by decide +kernel)) rfl
theorem wm_L_13 : Cond.methodLink RL 13 yX6_feed ∈ gx_ws := gx_in (List.mem_of_getElem? (i := 308) (by decide +kernel)) rfl
theorem wm_L_17 : Cond.methodLink RL 17 yX7_feed ∈ gx_ws := gx_in (List.mem_of_getElem? (i := 901) (by decide +kernel)) rfl
theorem wm_L_18 : Cond.methodLink RL 18 yX6_end ∈ gx_ws := gx_in (List.mem_of_getElem? (i := 315) (by decide +kernel)) rfl
theorem wm_L_21 : Cond.methodLink RL 21 yX7_end ∈ gx_ws := gx_in (List.mem_of_getElem? (i := 909) (by decide +kernel)) rfl
theorem wm_L_22 : Cond.methodLink RL 22 yX6_text ∈ gx_ws := gx_in (List.mem_of_getElem? (i := 319) (by decide +kernel)) rfl
theorem wm_L_26 : Cond.methodLink RL 26 yX7_text ∈ gx_ws := gx_in (List.mem_of_getElem? (i := 913) (by decide +kernel)) rfl
theorem wm_L_27 : Cond.methodLink RL 27 yX6_fault ∈ gx_ws := gx_in (List.mem_of_getElem? (i := 457) (by decide +kernel)) rfl
theorem wm_L_30 : Cond.methodLink RL 30 yX7_fault ∈ gx_ws := gx_in (List.mem_of_getElem? (i := 973) (by decide +kernel)) rfl
theorem wm_L_31 : Cond.methodLink RL 31 yX6_rule ∈ gx_ws := gx_in (List.mem_of_getElem? (i := 461) (by decide +kernel)) rfl
theorem wm_L_34 : Cond.methodLink RL 34 yX7_rule ∈ gx_ws := gx_in (List.mem_of_getElem? (i := 977) (by decide +kernel)) rfl
theorem wm_L_35 : Cond.methodLink RL 35 yX6_glove ∈ gx_ws := gx_in (List.mem_of_getElem? (i := 477) (by decide +kernel)) rfl
theorem wm_L_39 : Cond.methodLink RL 39 yX7_glove ∈ gx_ws := gx_in (List.mem_of_getElem? (i := 1008) (by decide +kernel)) rfl
theorem wm_L_40 : Cond.methodLink RL 40 yX6_door ∈ gx_ws := gx_in (List.mem_of_getElem? (i := 498) (by decide +kernel)) rfl
theorem wm_L_43 : Cond.methodLink RL 43 yX7_door ∈ gx_ws := gx_in (List.mem_of_getElem? (i := 1027) (by decide +kernel)) rfl
theorem wm_L_44 : Cond.methodLink RL 44 yX6_stop ∈ gx_ws := gx_in (List.mem_of_getElem? (i := 509) (by decide +kernel)) rfl
theorem wm_L_47 : Cond.methodLink RL 47 yX7_stop ∈ gx_ws := gx_in (List.mem_of_getElem? (i := 1038) (by decide +kernel)) rfl
theorem wm_L_48 : Cond.methodLink RL 48 yX6_alter ∈ gx_ws := gx_in (List.mem_of_getElem? (i := 517) (by decide +kernel)) rfl
theorem wm_L_52 : Cond.methodLink RL 52 yX7_alter ∈ gx_ws := gx_in (List.mem_of_getElem? (i := 1046) (by decide +kernel)) rfl
theorem wm_L_53 : Cond.methodLink RL 53 yX6_fame ∈ gx_ws := gx_in (List.mem_of_getElem? (i := 532) (by decide +kernel)) rfl
theorem wm_L_56 : Cond.methodLink RL 56 yX7_fame ∈ gx_ws := gx_in (List.mem_of_getElem? (i := 1060) (by decide +kernel)) rfl
theorem wm_L_57 : Cond.methodLink RL 57 yX6_leave ∈ gx_ws := gx_in (List.mem_of_getElem? (i := 536) (by decide +kernel)) rfl
theorem wm_L_60 : Cond.methodLink RL 60 yX7_leave ∈ gx_ws := gx_in (List.mem_of_getElem? (i := 1065) (by decide +kernel)) rfl
theorem wm_L_61 : Cond.methodLink RL 61 yX6_go ∈ gx_ws := gx_in (List.mem_of_getElem? (i := 540) (by decide +kernel)) rfl
theorem wm_L_64 : Cond.methodLink RL 64 yX7_go ∈ gx_ws := gx_in (List.mem_of_getElem? (i := 1069) (by decide +kernel)) rfl
theorem wm_L_65 : Cond.methodLink RL 65 yX6_call ∈ gx_ws := gx_in (List.mem_of_getElem? (i := 548) (by decide +kernel)) rfl
theorem wm_L_68 : Cond.methodLink RL 68 yX7_call ∈ gx_ws := gx_in (List.mem_of_getElem? (i := 1073) (by decide +kernel)) rfl
theorem wm_L_69 : Cond.methodLink RL 69 yX6_cut ∈ gx_ws := gx_in (List.mem_of_getElem? (i := 552) (by decide +kernel)) rfl
theorem wm_L_72 : Cond.methodLink RL 72 yX7_cut ∈ gx_ws := gx_in (List.mem_of_getElem? (i := 1077) (by decide +kernel)) rfl
theorem wm_L_73 : Cond.methodLink RL 73 yX6_days ∈ gx_ws := gx_in (List.mem_of_getElem? (i := 556) (by decide +kernel)) rfl
theorem wm_L_76 : Cond.methodLink RL 76 yX7_days ∈ gx_ws := gx_in (List.mem_of_getElem? (i := 1081) (by decide +kernel)) rfl
theorem wm_L_77 : Cond.methodLink RL 77 yX6_runs ∈ gx_ws := gx_in (List.mem_of_getElem? (i := 576) (by decide +kernel)) rfl
theorem wm_L_80 : Cond.methodLink RL 80 yX7_runs ∈ gx_ws := gx_in (List.mem_of_getElem? (i := 1121) (by decide +kernel)) rfl
theorem wm_L_81 : Cond.methodLink RL 81 yX6_ahead ∈ gx_ws := gx_in (List.mem_of_getElem? (i := 584) (by decide +kernel)) rfl
theorem wm_L_84 : Cond.methodLink RL 84 yX7_ahead ∈ gx_ws := gx_in (List.mem_of_getElem? (i := 1130) (by decide +kernel)) rfl
theorem wm_L_85 : Cond.methodLink RL 85 yX6_meets ∈ gx_ws := gx_in (List.mem_of_getElem? (i := 588) (by decide +kernel)) rfl
theorem wm_L_88 : Cond.methodLink RL 88 yX7_meets ∈ gx_ws := gx_in (List.mem_of_getElem? (i := 1134) (by decide +kernel)) rfl
theorem wm_L_89 : Cond.methodLink RL 89 yX6_place ∈ gx_ws := gx_in (List.mem_of_getElem? (i := 592) (by decide +kernel)) rfl
theorem wm_L_92 : Cond.methodLink RL 92 yX7_place ∈ gx_ws := gx_in (List.mem_of_getElem? (i := 1138) (by decide +kernel)) rfl
theorem wm_L_93 : Cond.methodLink RL 93 yX6_extra ∈ gx_ws := gx_in (List.mem_of_getElem? (i := 613) (by decide +kernel)) rfl
theorem wm_L_96 : Cond.methodLink RL 96 yX7_extra ∈ gx_ws := gx_in (List.mem_of_getElem? (i := 1162) (by decide +kernel)) rfl
theorem wm_L_97 : Cond.methodLink RL 97 yX6_swap ∈ gx_ws := gx_in (List.mem_of_getElem? (i := 617) (by decide +kernel)) rfl
theorem wm_L_100 : Cond.methodLink RL 100 yX7_swap ∈ gx_ws := gx_in (List.mem_of_getElem? (i := 1166) (by decide +kernel)) rfl
theorem wm_L_101 : Cond.methodLink RL 101 yX6_shun ∈ gx_ws := gx_in (List.mem_of_getElem? (i := 629) (by decide +kernel)) rfl
theorem wm_L_104 : Cond.methodLink RL 104 yX7_shun ∈ gx_ws := gx_in (List.mem_of_getElem? (i := 1170) (by decide +kernel)) rfl
theorem wm_L_105 : Cond.methodLink RL 105 yX6_need ∈ gx_ws := gx_in (List.mem_of_getElem? (i := 637) (by decide +kernel)) rfl
theorem wm_L_108 : Cond.methodLink RL 108 yX7_need ∈ gx_ws := gx_in (List.mem_of_getElem? (i := 1174) (by decide +kernel)) rfl
theorem wm_L_109 : Cond.methodLink RL 109 yX6_kind ∈ gx_ws := gx_in (List.mem_of_getElem? (i := 641) (by decide +kernel)) rfl
theorem wm_L_112 : Cond.methodLink RL 112 yX7_kind ∈ gx_ws := gx_in (List.mem_of_getElem? (i := 1178) (by decide +kernel)) rfl
theorem wm_L_113 : Cond.methodLink RL 113 yX6_drop ∈ gx_ws := gx_in (List.mem_of_getElem? (i := 649) (by decide +kernel)) rfl
theorem wm_L_116 : Cond.methodLink RL 116 yX7_drop ∈ gx_ws := gx_in (List.mem_of_getElem? (i := 1182) (by decide +kernel)) rfl
theorem wm_L_117 : Cond.methodLink RL 117 yX6_luck ∈ gx_ws := gx_in (List.mem_of_getElem? (i := 653) (by decide +kernel)) rfl
theorem wm_L_121 : Cond.methodLink RL 121 yX7_luck ∈ gx_ws := gx_in (List.mem_of_getElem? (i := 1186) (by decide +kernel)) rfl
theorem wm_L_122 : Cond.methodLink RL 122 yX6_mean ∈ gx_ws := gx_in (List.mem_of_getElem? (i := 673) (by decide +kernel)) rfl
theorem wm_L_126 : Cond.methodLink RL 126 yX7_mean ∈ gx_ws := gx_in (List.mem_of_getElem? (i := 1203) (by decide +kernel)) rfl
theorem wm_L_127 : Cond.methodLink RL 127 yX6_see ∈ gx_ws := gx_in (List.mem_of_getElem? (i := 677) (by decide +kernel)) rfl
theorem wm_L_130 : Cond.methodLink RL 130 yX7_see ∈ gx_ws := gx_in (List.mem_of_getElem? (i := 1207) (by decide +kernel)) rfl
theorem wm_L_131 : Cond.methodLink RL 131 yX6_forget ∈ gx_ws := gx_in (List.mem_of_getElem? (i := 685) (by decide +kernel)) rfl
theorem wm_L_134 : Cond.methodLink RL 134 yX7_forget ∈ gx_ws := gx_in (List.mem_of_getElem? (i := 1211) (by decide +kernel)) rfl
theorem wm_L_135 : Cond.methodLink RL 135 yX6_kinds ∈ gx_ws := gx_in (List.mem_of_getElem? (i := 689) (by decide +kernel)) rfl
theorem wm_L_138 : Cond.methodLink RL 138 yX7_kinds ∈ gx_ws := gx_in (List.mem_of_getElem? (i := 1215) (by decide +kernel)) rfl
theorem wm_L_139 : Cond.methodLink RL 139 yX6_doors ∈ gx_ws := gx_in (List.mem_of_getElem? (i := 710) (by decide +kernel)) rfl
theorem wm_L_142 : Cond.methodLink RL 142 yX7_doors ∈ gx_ws := gx_in (List.mem_of_getElem? (i := 1227) (by decide +kernel)) rfl
theorem wm_L_143 : Cond.methodLink RL 143 yX6_ask ∈ gx_ws := gx_in (List.mem_of_getElem? (i := 714) (by decide +kernel)) rfl
theorem wm_L_146 : Cond.methodLink RL 146 yX7_ask ∈ gx_ws := gx_in (List.mem_of_getElem? (i := 1231) (by decide +kernel)) rfl
theorem wm_L_147 : Cond.methodLink RL 147 yX6_drift ∈ gx_ws := gx_in (List.mem_of_getElem? (i := 723) (by decide +kernel)) rfl
theorem wm_L_150 : Cond.methodLink RL 150 yX7_drift ∈ gx_ws := gx_in (List.mem_of_getElem? (i := 1235) (by decide +kernel)) rfl
theorem wm_L_151 : Cond.methodLink RL 151 yX6_keep ∈ gx_ws := gx_in (List.mem_of_getElem? (i := 728) (by decide +kernel)) rfl
theorem wm_L_154 : Cond.methodLink RL 154 yX7_keep ∈ gx_ws := gx_in (List.mem_of_getElem? (i := 1240) (by decide +kernel)) rfl
theorem wm_L_155 : Cond.methodLink RL 155 yX6_back ∈ gx_ws := gx_in (List.mem_of_getElem? (i := 737) (by decide +kernel)) rfl
theorem wm_L_158 : Cond.methodLink RL 158 yX7_back ∈ gx_ws := gx_in (List.mem_of_getElem? (i := 1248) (by decide +kernel)) rfl
theorem wm_L_159 : Cond.methodLink RL 159 yX6_sheet ∈ gx_ws := gx_in (List.mem_of_getElem? (i := 741) (by decide +kernel)) rfl
theorem wm_L_162 : Cond.methodLink RL 162 yX7_sheet ∈ gx_ws := gx_in (List.mem_of_getElem? (i := 1252) (by decide +kernel)) rfl
theorem wm_L_163 : Cond.methodLink RL 163 yX6_lay ∈ gx_ws := gx_in (List.mem_of_getElem? (i := 753) (by decide +kernel)) rfl
theorem wm_L_166 : Cond.methodLink RL 166 yX7_lay ∈ gx_ws := gx_in (List.mem_of_getElem? (i := 1260) (by decide +kernel)) rfl
theorem wm_L_167 : Cond.methodLink RL 167 yX6_read ∈ gx_ws := gx_in (List.mem_of_getElem? (i := 770) (by decide +kernel)) rfl
theorem wm_L_171 : Cond.methodLink RL 171 yX7_read ∈ gx_ws := gx_in (List.mem_of_getElem? (i := 1264) (by decide +kernel)) rfl
theorem wm_L_172 : Cond.methodLink RL 172 yX6_torn ∈ gx_ws := gx_in (List.mem_of_getElem? (i := 779) (by decide +kernel)) rfl
theorem wm_L_175 : Cond.methodLink RL 175 yX7_torn ∈ gx_ws := gx_in (List.mem_of_getElem? (i := 1269) (by decide +kernel)) rfl
