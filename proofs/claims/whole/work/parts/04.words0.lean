theorem wl_X0 : ∀ w ∈ u_ws RX0 TX0 3, w ∈ gx_ws := fun w h => gx_in (List.mem_of_elem_eq_true (by revert w h; decide +kernel)) (by revert w h; decide +kernel)
theorem wk_X0 : gx_clOk 0 RX0 TX0 3 tyX0 := ⟨rfl, wl_X0, tyX0_ok, nmX0⟩
theorem wl_X1 : ∀ w ∈ u_ws RX1 TX1 3, w ∈ gx_ws := fun w h => gx_in (List.mem_of_elem_eq_true (by revert w h; decide +kernel)) (by revert w h; decide +kernel)
theorem wk_X1 : gx_clOk 1 RX1 TX1 3 tyX1 := ⟨rfl, wl_X1, tyX1_ok, nmX1⟩
theorem wl_X2 : ∀ w ∈ u_ws RX2 TX2 4, w ∈ gx_ws := fun w h => gx_in (List.mem_of_elem_eq_true (by revert w h; decide +kernel)) (by revert w h; decide +kernel)
theorem wk_X2 : gx_clOk 2 RX2 TX2 4 tyX2 := ⟨rfl, wl_X2, tyX2_ok, nmX2⟩
theorem wl_X3 : ∀ w ∈ u_ws RX3 TX3 2, w ∈ gx_ws := fun w h => gx_in (List.mem_of_elem_eq_true (by revert w h; decide +kernel)) (by revert w h; decide +kernel)
theorem wk_X3 : gx_clOk 3 RX3 TX3 2 tyX3 := ⟨rfl, wl_X3, tyX3_ok, nmX3⟩
theorem wl_X4 : ∀ w ∈ u_ws RX4 TX4 10, w ∈ gx_ws := fun w h => gx_in (List.mem_of_elem_eq_true (by revert w h; decide +kernel)) (by revert w h; decide +kernel)
theorem wk_X4 : gx_clOk 4 RX4 TX4 10 tyX4 := ⟨rfl, wl_X4, tyX4_ok, nmX4⟩
theorem wl_X5 : ∀ w ∈ u_ws RX5 TX5 11, w ∈ gx_ws := fun w h => gx_in (List.mem_of_elem_eq_true (by revert w h; decide +kernel)) (by revert w h; decide +kernel)
theorem wk_X5 : gx_clOk 5 RX5 TX5 11 tyX5 := ⟨rfl, wl_X5, tyX5_ok, nmX5⟩
theorem wl_X6 : ∀ w ∈ u_ws RX6 TX6 10, w ∈ gx_ws := fun w h => gx_in (List.mem_of_elem_eq_true (by revert w h; decide +kernel)) (by revert w h; decide +kernel)
theorem wk_X6 : gx_clOk 6 RX6 TX6 10 tyX6 := ⟨rfl, wl_X6, tyX6_ok, nmX6⟩
theorem wl_X7 : ∀ w ∈ u_ws RX7 TX7 30, w ∈ gx_ws := fun w h => gx_in (List.mem_of_elem_eq_true (by revert w h; decide +kernel)) (by revert w h; decide +kernel)
theorem wk_X7 : gx_clOk 7 RX7 TX7 30 tyX7 := ⟨rfl, wl_X7, tyX7_ok, nmX7⟩
def mX0_init : gx_M := (RX0, cX0_init, 1, none, true)
def mX1_init : gx_M := (RX1, cX1_init, 1, none, true)
def mX1_makeNew : gx_M := (RX1, cX1_makeNew, 3, none, false)
def mX1_isNothing : gx_M := (RX1, cX1_isNothing, 1, (some .boolean), false)
def mX1_faultAt : gx_M := (RX1, cX1_faultAt, 2, (some .int), false)
def mX1_faultAtPair : gx_M := (RX1, cX1_faultAtPair, 4, (some .int), false)
def mX1_lowestBits : gx_M := (RX1, cX1_lowestBits, 2, (some .int), false)
def mX2_init : gx_M := (RX2, cX2_init, 1, none, true)
def mX2_become : gx_M := (RX2, cX2_become, 2, none, false)
def mX2_add : gx_M := (RX2, cX2_add, 4, none, false)
def mX2_lastDay : gx_M := (RX2, cX2_lastDay, 3, (some .int), false)
def mX2_fits : gx_M := (RX2, cX2_fits, 4, (some .boolean), false)
def mX3_init : gx_M := (RX3, cX3_init, 1, none, true)
def mX4_init : gx_M := (RX4, cX4_init, 3, none, true)
def mX4_takesAll : gx_M := (RX4, cX4_takesAll, 1, (some .boolean), false)
def mX4_refuses : gx_M := (RX4, cX4_refuses, 2, (some .boolean), false)
def mX4_takesLine : gx_M := (RX4, cX4_takesLine, 2, (some .boolean), false)
def mX4_takesGlove : gx_M := (RX4, cX4_takesGlove, 3, (some .boolean), false)
def mX4_takesRoute : gx_M := (RX4, cX4_takesRoute, 2, (some .boolean), false)
def mX4_takesMan : gx_M := (RX4, cX4_takesMan, 1, (some .boolean), false)
def mX4_takesRow : gx_M := (RX4, cX4_takesRow, 3, (some .boolean), false)
def mX4_takesNumber : gx_M := (RX4, cX4_takesNumber, 2, (some .boolean), false)
def mX4_takesMark : gx_M := (RX4, cX4_takesMark, 1, (some .boolean), false)
def mX4_readsToken : gx_M := (RX4, cX4_readsToken, 2, (some .boolean), false)
def mX4_readsWord : gx_M := (RX4, cX4_readsWord, 1, (some .boolean), false)
def mX4_readsNumber : gx_M := (RX4, cX4_readsNumber, 1, (some .boolean), false)
def mX4_isLetter : gx_M := (RX4, cX4_isLetter, 1, (some .boolean), false)
def mX4_isFigure : gx_M := (RX4, cX4_isFigure, 1, (some .boolean), false)
def mX4_wordRead : gx_M := (RX4, cX4_wordRead, 2, (some .int), false)
def mX4_isSpelled : gx_M := (RX4, cX4_isSpelled, 3, (some .boolean), false)
def mX4_spellingOf : gx_M := (RX4, cX4_spellingOf, 1, (some (.object "java/lang/String")), false)
def mX5_init : gx_M := (RX5, cX5_init, 1, none, true)
def mX5_makeEmpty : gx_M := (RX5, cX5_makeEmpty, 1, none, false)
def mX5_become : gx_M := (RX5, cX5_become, 2, none, false)
def mX5_partOf : gx_M := (RX5, cX5_partOf, 3, (some .int), false)
def mX5_putPart : gx_M := (RX5, cX5_putPart, 4, none, false)
def mX5_isPaired : gx_M := (RX5, cX5_isPaired, 2, (some .boolean), false)
def mX5_isCold : gx_M := (RX5, cX5_isCold, 2, (some .boolean), false)
def mX5_coldOnes : gx_M := (RX5, cX5_coldOnes, 3, (some .int), false)
def mX5_glovesAt : gx_M := (RX5, cX5_glovesAt, 4, (some .int), false)
def mX5_metCount : gx_M := (RX5, cX5_metCount, 1, (some .int), false)
def mX5_leaveOutCall : gx_M := (RX5, cX5_leaveOutCall, 3, none, false)
def mX5_stepOf : gx_M := (RX5, cX5_stepOf, 4, (some .int), false)
def mX5_moveMan : gx_M := (RX5, cX5_moveMan, 3, none, false)
def mX5_passDays : gx_M := (RX5, cX5_passDays, 3, none, false)
def mX5_passDay : gx_M := (RX5, cX5_passDay, 3, none, false)
def mX5_passDayOfGlove : gx_M := (RX5, cX5_passDayOfGlove, 2, none, false)
def mX6_init : gx_M := (RX6, cX6_init, 2, none, true)
def mX6_feed : gx_M := (RX6, cX6_feed, 2, (some .int), false)
def mX6_end : gx_M := (RX6, cX6_end, 3, (some .int), false)
def mX6_text : gx_M := (RX6, cX6_text, 3, (some .int), false)
def mX6_fault : gx_M := (RX6, cX6_fault, 1, (some .int), false)
def mX6_rule : gx_M := (RX6, cX6_rule, 2, (some .int), false)
def mX6_glove : gx_M := (RX6, cX6_glove, 3, (some .int), false)
def mX6_door : gx_M := (RX6, cX6_door, 3, (some .int), false)
def mX6_stop : gx_M := (RX6, cX6_stop, 2, (some .int), false)
def mX6_alter : gx_M := (RX6, cX6_alter, 6, (some .int), false)
def mX6_fame : gx_M := (RX6, cX6_fame, 4, (some .int), false)
def mX6_leave : gx_M := (RX6, cX6_leave, 2, (some .int), false)
def mX6_go : gx_M := (RX6, cX6_go, 3, (some .int), false)
def mX6_call : gx_M := (RX6, cX6_call, 2, (some .int), false)
def mX6_cut : gx_M := (RX6, cX6_cut, 3, (some .int), false)
def mX6_days : gx_M := (RX6, cX6_days, 3, (some .int), false)
def mX6_runs : gx_M := (RX6, cX6_runs, 3, (some .int), false)
def mX6_ahead : gx_M := (RX6, cX6_ahead, 4, (some .int), false)
def mX6_meets : gx_M := (RX6, cX6_meets, 2, (some .int), false)
def mX6_place : gx_M := (RX6, cX6_place, 4, (some .int), false)
def mX6_extra : gx_M := (RX6, cX6_extra, 3, (some .int), false)
def mX6_swap : gx_M := (RX6, cX6_swap, 8, (some .int), false)
def mX6_shun : gx_M := (RX6, cX6_shun, 6, (some .int), false)
def mX6_need : gx_M := (RX6, cX6_need, 3, (some .int), false)
def mX6_kind : gx_M := (RX6, cX6_kind, 4, (some .int), false)
def mX6_drop : gx_M := (RX6, cX6_drop, 4, (some .int), false)
def mX6_luck : gx_M := (RX6, cX6_luck, 5, (some .long), false)
def mX6_mean : gx_M := (RX6, cX6_mean, 4, (some .long), false)
def mX6_see : gx_M := (RX6, cX6_see, 4, (some .int), false)
def mX6_forget : gx_M := (RX6, cX6_forget, 3, (some .int), false)
def mX6_kinds : gx_M := (RX6, cX6_kinds, 2, (some .int), false)
def mX6_doors : gx_M := (RX6, cX6_doors, 2, (some .int), false)
def mX6_ask : gx_M := (RX6, cX6_ask, 9, (some .int), false)
def mX6_drift : gx_M := (RX6, cX6_drift, 6, (some .int), false)
def mX6_keep : gx_M := (RX6, cX6_keep, 4, (some .int), false)
def mX6_back : gx_M := (RX6, cX6_back, 3, (some .int), false)
def mX6_sheet : gx_M := (RX6, cX6_sheet, 4, (some .int), false)
def mX6_lay : gx_M := (RX6, cX6_lay, 5, (some .int), false)
def mX6_read : gx_M := (RX6, cX6_read, 9, (some .int), false)
def mX6_torn : gx_M := (RX6, cX6_torn, 1, (some .int), false)
def mX6_count : gx_M := (RX6, cX6_count, 2, (some .int), false)
def mX6_isWithin : gx_M := (RX6, cX6_isWithin, 2, (some .boolean), false)
def mX6_isDoor : gx_M := (RX6, cX6_isDoor, 1, (some .boolean), false)
def mX6_isSheet : gx_M := (RX6, cX6_isSheet, 1, (some .boolean), false)
def mX6_isGlove : gx_M := (RX6, cX6_isGlove, 2, (some .boolean), false)
def mX6_isCall : gx_M := (RX6, cX6_isCall, 2, (some .boolean), false)
def mX6_greatestOf : gx_M := (RX6, cX6_greatestOf, 1, (some .int), false)
def mX6_refusalOf : gx_M := (RX6, cX6_refusalOf, 4, (some .int), false)
def mX6_farOf : gx_M := (RX6, cX6_farOf, 3, (some .int), false)
def mX6_sumOf : gx_M := (RX6, cX6_sumOf, 4, (some .int), false)
def mX6_imagesKept : gx_M := (RX6, cX6_imagesKept, 3, (some .int), false)
def mX6_firstPairing : gx_M := (RX6, cX6_firstPairing, 4, (some .int), false)
def mX6_nameBehind : gx_M := (RX6, cX6_nameBehind, 2, (some .int), false)
def mX6_nameWithSwap : gx_M := (RX6, cX6_nameWithSwap, 4, (some .int), false)
def mX6_bestDoorOfCall : gx_M := (RX6, cX6_bestDoorOfCall, 8, (some .int), false)
def mX6_mostNamedPart : gx_M := (RX6, cX6_mostNamedPart, 8, (some .int), false)
def mX6_partsAsSeen : gx_M := (RX6, cX6_partsAsSeen, 5, (some .int), false)
def mX6_trialGoesAsSeen : gx_M := (RX6, cX6_trialGoesAsSeen, 3, (some .boolean), false)
def mX6_mostAtOneDoor : gx_M := (RX6, cX6_mostAtOneDoor, 7, (some .int), false)
def mX6_fractionByOdds : gx_M := (RX6, cX6_fractionByOdds, 11, (some .long), false)
def mX6_weighedBranches : gx_M := (RX6, cX6_weighedBranches, 9, (some .long), false)
def mX6_commonDivisor : gx_M := (RX6, cX6_commonDivisor, 11, (some .long), false)
def mX7_init : gx_M := (RX7, cX7_init, 2, none, true)
def mX7_in : gx_M := (RX7, cX7_in, 6, (some .boolean), false)
def mX7_flag : gx_M := (RX7, cX7_flag, 1, (some .int), false)
def mX7_lesser : gx_M := (RX7, cX7_lesser, 2, (some .int), false)
def mX7_firstDraft : gx_M := (RX7, cX7_firstDraft, 2, none, false)
def mX7_keepDraft : gx_M := (RX7, cX7_keepDraft, 2, none, false)
def mX7_feed : gx_M := (RX7, cX7_feed, 2, (some .int), false)
def mX7_end : gx_M := (RX7, cX7_end, 3, (some .int), false)
def mX7_requires : gx_M := (RX7, cX7_requires, 3, none, false)
def mX7_byteAt : gx_M := (RX7, cX7_byteAt, 2, (some .int), false)
def mX7_is : gx_M := (RX7, cX7_is, 5, (some .boolean), false)
def mX7_endsIn : gx_M := (RX7, cX7_endsIn, 4, (some .boolean), false)
def mX7_lineNow : gx_M := (RX7, cX7_lineNow, 1, (some .int), false)
def mX7_reads : gx_M := (RX7, cX7_reads, 2, none, false)
def mX7_looked : gx_M := (RX7, cX7_looked, 3, (some .int), false)
def mX7_readNumber : gx_M := (RX7, cX7_readNumber, 4, (some .int), false)
def mX7_readFames : gx_M := (RX7, cX7_readFames, 1, none, false)
def mX7_readRoute : gx_M := (RX7, cX7_readRoute, 1, none, false)
def mX7_readLineOf : gx_M := (RX7, cX7_readLineOf, 2, none, false)
def mX7_wasTold : gx_M := (RX7, cX7_wasTold, 2, (some .boolean), false)
def mX7_readLine : gx_M := (RX7, cX7_readLine, 2, none, false)
def mX7_text : gx_M := (RX7, cX7_text, 2, (some .int), false)
def mX7_fault : gx_M := (RX7, cX7_fault, 1, (some .int), false)
def mX7_isGlove : gx_M := (RX7, cX7_isGlove, 2, (some .boolean), false)
def mX7_isDoor : gx_M := (RX7, cX7_isDoor, 1, (some .boolean), false)
def mX7_isCall : gx_M := (RX7, cX7_isCall, 2, (some .boolean), false)
def mX7_isPart : gx_M := (RX7, cX7_isPart, 1, (some .boolean), false)
def mX7_starts : gx_M := (RX7, cX7_starts, 2, none, false)
def mX7_settles : gx_M := (RX7, cX7_settles, 2, none, false)
def mX7_of : gx_M := (RX7, cX7_of, 3, (some .int), false)
def mX7_becomesOf : gx_M := (RX7, cX7_becomesOf, 4, none, false)
def mX7_isPaired : gx_M := (RX7, cX7_isPaired, 2, (some .boolean), false)
def mX7_isCold : gx_M := (RX7, cX7_isCold, 2, (some .boolean), false)
def mX7_doorOf : gx_M := (RX7, cX7_doorOf, 2, (some .int), false)
def mX7_apart : gx_M := (RX7, cX7_apart, 3, (some .int), false)
def mX7_stepOf : gx_M := (RX7, cX7_stepOf, 6, (some .int), false)
def mX7_gloveGoes : gx_M := (RX7, cX7_gloveGoes, 3, none, false)
def mX7_dayGoesAt : gx_M := (RX7, cX7_dayGoesAt, 3, none, false)
def mX7_nextDoor : gx_M := (RX7, cX7_nextDoor, 1, (some .int), false)
def mX7_daysGo : gx_M := (RX7, cX7_daysGo, 3, none, false)
def mX7_nameMore : gx_M := (RX7, cX7_nameMore, 1, (some .int), false)
def mX7_nameBehind : gx_M := (RX7, cX7_nameBehind, 2, (some .int), false)
def mX7_pairedNow : gx_M := (RX7, cX7_pairedNow, 3, (some .int), false)
def mX7_coldNow : gx_M := (RX7, cX7_coldNow, 3, (some .int), false)
def mX7_metMany : gx_M := (RX7, cX7_metMany, 3, (some .int), false)
def mX7_metBehind : gx_M := (RX7, cX7_metBehind, 2, (some .int), false)
def mX7_rule : gx_M := (RX7, cX7_rule, 2, (some .int), false)
def mX7_glove : gx_M := (RX7, cX7_glove, 3, (some .int), false)
def mX7_door : gx_M := (RX7, cX7_door, 5, (some .int), false)
def mX7_stop : gx_M := (RX7, cX7_stop, 2, (some .int), false)
def mX7_becomes : gx_M := (RX7, cX7_becomes, 4, (some .int), false)
def mX7_wasPaired : gx_M := (RX7, cX7_wasPaired, 2, (some .boolean), false)
def mX7_alter : gx_M := (RX7, cX7_alter, 5, (some .int), false)
def mX7_fame : gx_M := (RX7, cX7_fame, 3, (some .int), false)
def mX7_leave : gx_M := (RX7, cX7_leave, 2, (some .int), false)
def mX7_go : gx_M := (RX7, cX7_go, 2, (some .int), false)
def mX7_call : gx_M := (RX7, cX7_call, 2, (some .int), false)
def mX7_cut : gx_M := (RX7, cX7_cut, 2, (some .int), false)
def mX7_days : gx_M := (RX7, cX7_days, 3, (some .int), false)
def mX7_isFar : gx_M := (RX7, cX7_isFar, 1, (some .boolean), false)
def mX7_runs : gx_M := (RX7, cX7_runs, 6, (some .int), false)
def mX7_ahead : gx_M := (RX7, cX7_ahead, 4, (some .int), false)
def mX7_meets : gx_M := (RX7, cX7_meets, 3, (some .int), false)
def mX7_startsJudging : gx_M := (RX7, cX7_startsJudging, 2, none, false)
def mX7_judges : gx_M := (RX7, cX7_judges, 3, none, false)
def mX7_judged : gx_M := (RX7, cX7_judged, 2, (some .int), false)
def mX7_place : gx_M := (RX7, cX7_place, 5, (some .int), false)
def mX7_extra : gx_M := (RX7, cX7_extra, 4, (some .int), false)
def mX7_swap : gx_M := (RX7, cX7_swap, 5, (some .int), false)
def mX7_shun : gx_M := (RX7, cX7_shun, 5, (some .int), false)
def mX7_need : gx_M := (RX7, cX7_need, 4, (some .int), false)
def mX7_kind : gx_M := (RX7, cX7_kind, 5, (some .int), false)
def mX7_drop : gx_M := (RX7, cX7_drop, 5, (some .int), false)
def mX7_common : gx_M := (RX7, cX7_common, 10, (some .long), false)
def mX7_told : gx_M := (RX7, cX7_told, 7, (some .long), false)
def mX7_findOdds : gx_M := (RX7, cX7_findOdds, 9, none, false)
def mX7_luck : gx_M := (RX7, cX7_luck, 5, (some .long), false)
def mX7_mean : gx_M := (RX7, cX7_mean, 4, (some .long), false)
def mX7_see : gx_M := (RX7, cX7_see, 5, (some .int), false)
def mX7_forget : gx_M := (RX7, cX7_forget, 2, (some .int), false)
def mX7_isSoWith : gx_M := (RX7, cX7_isSoWith, 6, (some .boolean), false)
def mX7_which : gx_M := (RX7, cX7_which, 5, (some .int), false)
def mX7_kinds : gx_M := (RX7, cX7_kinds, 2, (some .int), false)
def mX7_doors : gx_M := (RX7, cX7_doors, 2, (some .int), false)
def mX7_ask : gx_M := (RX7, cX7_ask, 11, (some .int), false)
def mX7_drift : gx_M := (RX7, cX7_drift, 6, (some .int), false)
def mX7_copies : gx_M := (RX7, cX7_copies, 4, none, false)
def mX7_keep : gx_M := (RX7, cX7_keep, 3, (some .int), false)
def mX7_back : gx_M := (RX7, cX7_back, 2, (some .int), false)
def mX7_isSheet : gx_M := (RX7, cX7_isSheet, 2, (some .boolean), false)
def mX7_sheet : gx_M := (RX7, cX7_sheet, 5, (some .int), false)
def mX7_lay : gx_M := (RX7, cX7_lay, 4, (some .int), false)
def mX7_read : gx_M := (RX7, cX7_read, 11, (some .int), false)
def mX7_torn : gx_M := (RX7, cX7_torn, 1, (some .int), false)
def mX7_count : gx_M := (RX7, cX7_count, 5, (some .int), false)
def mJ6_bitCount_0f7a4 : gx_M := (RJ6, cJ6_bitCount_0f7a4, 1, (some .int), false)
def mJ9_abs_0f7a4 : gx_M := (RJ9, cJ9_abs_0f7a4, 1, (some .int), false)
def mJ9_max_7cf53 : gx_M := (RJ9, cJ9_max_7cf53, 2, (some .int), false)
def mJ9_max_f86c9 : gx_M := (RJ9, cJ9_max_f86c9, 4, (some .long), false)
def mJ9_min_7cf53 : gx_M := (RJ9, cJ9_min_7cf53, 2, (some .int), false)
def mJ0_length_8abf5 : gx_M := (RJ0, cJ0_length_8abf5, 1, (some .int), false)
def mJ0_charAt_5068e : gx_M := (RJ0, cJ0_charAt_5068e, 2, (some .char), false)
def mJ0_coder_7d493 : gx_M := (RJ0, cJ0_coder_7d493, 1, (some .byte), false)
def mJ0_isLatin1_aae02 : gx_M := (RJ0, cJ0_isLatin1_aae02, 1, (some .boolean), false)
def mJ0_checkIndex_df160 : gx_M := (RJ0, cJ0_checkIndex_df160, 2, none, false)
def mJ1_charAt_3b067 : gx_M := (RJ1, cJ1_charAt_3b067, 2, (some .char), false)
def mJ2_getChar_3b067 : gx_M := (RJ2, cJ2_getChar_3b067, 2, (some .char), false)
def mJ2_length_9d52b : gx_M := (RJ2, cJ2_length_9d52b, 1, (some .int), false)
def mJ2_charAt_3b067 : gx_M := (RJ2, cJ2_charAt_3b067, 2, (some .char), false)
def mJ2_checkIndex_2214a : gx_M := (RJ2, cJ2_checkIndex_2214a, 2, none, false)
def mJ7_fill_53178 : gx_M := (RJ7, cJ7_fill_53178, 4, none, false)
def mJ3_checkIndex_8e157 : gx_M := (RJ3, cJ3_checkIndex_8e157, 3, (some .int), false)
def mL_law : gx_M := (RL, cL_law, 4, (some .boolean), false)
theorem wc_X6_7 : Cond.classLink RX6 7 RX5 ∈ gx_ws := gx_in (List.mem_of_getElem? (i := 96) (by decide +kernel)) rfl
theorem wc_X6_46 : Cond.classLink RX6 46 RX0 ∈ gx_ws := gx_in (List.mem_of_getElem? (i := 234) (by decide +kernel)) rfl
theorem wc_X6_52 : Cond.classLink RX6 52 RX1 ∈ gx_ws := gx_in (List.mem_of_getElem? (i := 236) (by decide +kernel)) rfl
theorem wf_X6_10 : Cond.fieldLink RX6 10 (TX6 0).1 (TX6 0).2.1 (TX6 0).2.2.1 ∈ gx_ws := gx_in (List.mem_of_getElem? (i := 276) (by decide +kernel)) rfl
theorem wf_X6_19 : Cond.fieldLink RX6 19 (TX6 1).1 (TX6 1).2.1 (TX6 1).2.2.1 ∈ gx_ws := gx_in (List.mem_of_getElem? (i := 277) (by decide +kernel)) rfl
theorem wf_X6_23 : Cond.fieldLink RX6 23 (TX6 2).1 (TX6 2).2.1 (TX6 2).2.2.1 ∈ gx_ws := gx_in (List.mem_of_getElem? (i := 278) (by decide +kernel)) rfl
theorem wf_X6_26 : Cond.fieldLink RX6 26 (TX6 3).1 (TX6 3).2.1 (TX6 3).2.2.1 ∈ gx_ws := gx_in (List.mem_of_getElem? (i := 279) (by decide +kernel)) rfl
theorem wf_X6_33 : Cond.fieldLink RX6 33 (TX6 4).1 (TX6 4).2.1 (TX6 4).2.2.1 ∈ gx_ws := gx_in (List.mem_of_getElem? (i := 280) (by decide +kernel)) rfl
theorem wf_X6_42 : Cond.fieldLink RX6 42 (TX6 5).1 (TX6 5).2.1 (TX6 5).2.2.1 ∈ gx_ws := gx_in (List.mem_of_getElem? (i := 281) (by decide +kernel)) rfl
theorem wf_X6_48 : Cond.fieldLink RX6 48 (TX6 6).1 (TX6 6).2.1 (TX6 6).2.2.1 ∈ gx_ws := gx_in (List.mem_of_getElem? (i := 282) (by decide +kernel)) rfl
theorem wf_X6_54 : Cond.fieldLink RX6 54 (TX6 7).1 (TX6 7).2.1 (TX6 7).2.2.1 ∈ gx_ws := gx_in (List.mem_of_getElem? (i := 283) (by decide +kernel)) rfl
theorem wf_X6_64 : Cond.fieldLink RX6 64 (TX3 1).1 (TX3 1).2.1 (TX3 1).2.2.1 ∈ gx_ws := gx_in (List.mem_of_getElem? (i := 186) (by decide +kernel)) rfl
theorem wf_X6_68 : Cond.fieldLink RX6 68 (TX3 0).1 (TX3 0).2.1 (TX3 0).2.2.1 ∈ gx_ws := gx_in (List.mem_of_getElem? (i := 184) (by decide +kernel)) rfl
theorem wf_X6_76 : Cond.fieldLink RX6 76 (TX4 8).1 (TX4 8).2.1 (TX4 8).2.2.1 ∈ gx_ws := gx_in (List.mem_of_getElem? (i := 210) (by decide +kernel)) rfl
theorem wf_X6_79 : Cond.fieldLink RX6 79 (TX6 8).1 (TX6 8).2.1 (TX6 8).2.2.1 ∈ gx_ws := gx_in (List.mem_of_getElem? (i := 284) (by decide +kernel)) rfl
theorem wf_X6_82 : Cond.fieldLink RX6 82 (TX4 7).1 (TX4 7).2.1 (TX4 7).2.2.1 ∈ gx_ws := gx_in (List.mem_of_getElem? (i := 207) (by decide +kernel)) rfl
theorem wf_X6_89 : Cond.fieldLink RX6 89 (TX2 3).1 (TX2 3).2.1 (TX2 3).2.2.1 ∈ gx_ws := gx_in (List.mem_of_getElem? (i := 166) (by decide +kernel)) rfl
theorem wf_X6_92 : Cond.fieldLink RX6 92 (TX0 2).1 (TX0 2).2.1 (TX0 2).2.2.1 ∈ gx_ws := gx_in (List.mem_of_getElem? (i := 251) (by decide +kernel)) rfl
theorem wf_X6_96 : Cond.fieldLink RX6 96 (TX4 9).1 (TX4 9).2.1 (TX4 9).2.2.1 ∈ gx_ws := gx_in (List.mem_of_getElem? (i := 212) (by decide +kernel)) rfl
theorem wf_X6_99 : Cond.fieldLink RX6 99 (TX5 6).1 (TX5 6).2.1 (TX5 6).2.2.1 ∈ gx_ws := gx_in (List.mem_of_getElem? (i := 121) (by decide +kernel)) rfl
theorem wf_X6_102 : Cond.fieldLink RX6 102 (TX5 10).1 (TX5 10).2.1 (TX5 10).2.2.1 ∈ gx_ws := gx_in (List.mem_of_getElem? (i := 131) (by decide +kernel)) rfl
theorem wf_X6_105 : Cond.fieldLink RX6 105 (TX5 8).1 (TX5 8).2.1 (TX5 8).2.2.1 ∈ gx_ws := gx_in (List.mem_of_getElem? (i := 126) (by decide +kernel)) rfl
theorem wf_X6_108 : Cond.fieldLink RX6 108 (TX5 9).1 (TX5 9).2.1 (TX5 9).2.2.1 ∈ gx_ws := gx_in (List.mem_of_getElem? (i := 129) (by decide +kernel)) rfl
theorem wf_X6_111 : Cond.fieldLink RX6 111 (TX5 5).1 (TX5 5).2.1 (TX5 5).2.2.1 ∈ gx_ws := gx_in (List.mem_of_getElem? (i := 118) (by decide +kernel)) rfl
theorem wf_X6_118 : Cond.fieldLink RX6 118 (TX5 7).1 (TX5 7).2.1 (TX5 7).2.2.1 ∈ gx_ws := gx_in (List.mem_of_getElem? (i := 124) (by decide +kernel)) rfl
theorem wf_X6_132 : Cond.fieldLink RX6 132 (TX5 2).1 (TX5 2).2.1 (TX5 2).2.2.1 ∈ gx_ws := gx_in (List.mem_of_getElem? (i := 110) (by decide +kernel)) rfl
theorem wf_X6_146 : Cond.fieldLink RX6 146 (TX5 0).1 (TX5 0).2.1 (TX5 0).2.2.1 ∈ gx_ws := gx_in (List.mem_of_getElem? (i := 104) (by decide +kernel)) rfl
theorem wf_X6_155 : Cond.fieldLink RX6 155 (TX5 4).1 (TX5 4).2.1 (TX5 4).2.2.1 ∈ gx_ws := gx_in (List.mem_of_getElem? (i := 116) (by decide +kernel)) rfl
theorem wf_X6_176 : Cond.fieldLink RX6 176 (TX5 3).1 (TX5 3).2.1 (TX5 3).2.2.1 ∈ gx_ws := gx_in (List.mem_of_getElem? (i := 113) (by decide +kernel)) rfl
theorem wf_X6_222 : Cond.fieldLink RX6 222 (TX0 0).1 (TX0 0).2.1 (TX0 0).2.2.1 ∈ gx_ws := gx_in (List.mem_of_getElem? (i := 248) (by decide +kernel)) rfl
theorem wf_X6_225 : Cond.fieldLink RX6 225 (TX0 1).1 (TX0 1).2.1 (TX0 1).2.2.1 ∈ gx_ws := gx_in (List.mem_of_getElem? (i := 250) (by decide +kernel)) rfl
theorem wf_X6_239 : Cond.fieldLink RX6 239 (TX1 0).1 (TX1 0).2.1 (TX1 0).2.2.1 ∈ gx_ws := gx_in (List.mem_of_getElem? (i := 265) (by decide +kernel)) rfl
theorem wf_X6_248 : Cond.fieldLink RX6 248 (TX6 9).1 (TX6 9).2.1 (TX6 9).2.2.1 ∈ gx_ws := gx_in (List.mem_of_getElem? (i := 285) (by decide +kernel)) rfl
theorem wf_X6_257 : Cond.fieldLink RX6 257 (TX1 2).1 (TX1 2).2.1 (TX1 2).2.2.1 ∈ gx_ws := gx_in (List.mem_of_getElem? (i := 268) (by decide +kernel)) rfl
theorem wm_X6_1 : Cond.methodLink RX6 1 objectInit ∈ gx_ws := gx_in (List.mem_of_getElem? (i := 93) (by decide +kernel)) rfl
theorem wn_X6_9 : (RX6, 9, yX5_init) ∈ gx_nest := by decide +kernel
theorem wn_X6_18 : (RX6, 18, yX2_init) ∈ gx_nest := by decide +kernel
theorem wn_X6_32 : (RX6, 32, yX3_init) ∈ gx_nest := by decide +kernel
theorem wm_X6_39 : Cond.methodLink RX6 39 yX4_init ∈ gx_ws := gx_in (List.mem_of_getElem? (i := 196) (by decide +kernel)) rfl
theorem wn_X6_58 : (RX6, 58, yX0_init) ∈ gx_nest := by decide +kernel
theorem wn_X6_59 : (RX6, 59, yX1_init) ∈ gx_nest := by decide +kernel
theorem wm_X6_60 : Cond.methodLink RX6 60 yX6_isWithin ∈ gx_ws := gx_in (List.mem_of_getElem? (i := 311) (by decide +kernel)) rfl
theorem wm_X6_136 : Cond.methodLink RX6 136 yX6_farOf ∈ gx_ws := gx_in (List.mem_of_getElem? (i := 489) (by decide +kernel)) rfl
theorem wm_X6_143 : Cond.methodLink RX6 143 yX6_isDoor ∈ gx_ws := gx_in (List.mem_of_getElem? (i := 507) (by decide +kernel)) rfl
theorem wm_X6_207 : Cond.methodLink RX6 207 yJ6_bitCount_0f7a4 ∈ gx_ws := gx_in (List.mem_of_getElem? (i := 721) (by decide +kernel)) rfl
theorem wm_X6_229 : Cond.methodLink RX6 229 yX6_isSheet ∈ gx_ws := gx_in (List.mem_of_getElem? (i := 748) (by decide +kernel)) rfl
theorem wm_X6_260 : Cond.methodLink RX6 260 yX6_sumOf ∈ gx_ws := gx_in (List.mem_of_getElem? (i := 795) (by decide +kernel)) rfl
theorem wm_X6_264 : Cond.methodLink RX6 264 yX6_greatestOf ∈ gx_ws := gx_in (List.mem_of_getElem? (i := 530) (by decide +kernel)) rfl
theorem wm_X6_267 : Cond.methodLink RX6 267 yJ9_abs_0f7a4 ∈ gx_ws := gx_in (List.mem_of_getElem? (i := 492) (by decide +kernel)) rfl
theorem wm_X6_272 : Cond.methodLink RX6 272 yJ9_min_7cf53 ∈ gx_ws := gx_in (List.mem_of_getElem? (i := 495) (by decide +kernel)) rfl
theorem wm_X6_275 : Cond.methodLink RX6 275 yJ9_max_7cf53 ∈ gx_ws := gx_in (List.mem_of_getElem? (i := 603) (by decide +kernel)) rfl
theorem wm_X6_288 : Cond.methodLink RX6 288 yX6_weighedBranches ∈ gx_ws := gx_in (List.mem_of_getElem? (i := 665) (by decide +kernel)) rfl
theorem wm_X6_294 : Cond.methodLink RX6 294 yX6_commonDivisor ∈ gx_ws := gx_in (List.mem_of_getElem? (i := 670) (by decide +kernel)) rfl
theorem wm_X6_298 : Cond.methodLink RX6 298 yJ9_max_f86c9 ∈ gx_ws := gx_in (List.mem_of_getElem? (i := 673) (by decide +kernel)) rfl
theorem wm_X6_72 : Cond.methodLink RX6 72 yX4_takesAll ∈ gx_ws := gx_in (List.mem_of_getElem? (i := 322) (by decide +kernel)) rfl
theorem wm_X6_85 : Cond.methodLink RX6 85 yX5_become ∈ gx_ws := gx_in (List.mem_of_getElem? (i := 449) (by decide +kernel)) rfl
theorem wm_X6_114 : Cond.methodLink RX6 114 yX5_coldOnes ∈ gx_ws := gx_in (List.mem_of_getElem? (i := 464) (by decide +kernel)) rfl
theorem wm_X6_121 : Cond.methodLink RX6 121 yX6_isGlove ∈ gx_ws := gx_in (List.mem_of_getElem? (i := 480) (by decide +kernel)) rfl
theorem wm_X6_125 : Cond.methodLink RX6 125 yX5_partOf ∈ gx_ws := gx_in (List.mem_of_getElem? (i := 484) (by decide +kernel)) rfl
theorem wm_X6_129 : Cond.methodLink RX6 129 yX5_isPaired ∈ gx_ws := gx_in (List.mem_of_getElem? (i := 488) (by decide +kernel)) rfl
theorem wm_X6_139 : Cond.methodLink RX6 139 yX5_stepOf ∈ gx_ws := gx_in (List.mem_of_getElem? (i := 498) (by decide +kernel)) rfl
theorem wm_X6_149 : Cond.methodLink RX6 149 yX5_glovesAt ∈ gx_ws := gx_in (List.mem_of_getElem? (i := 510) (by decide +kernel)) rfl
theorem wm_X6_152 : Cond.methodLink RX6 152 yX6_isCall ∈ gx_ws := gx_in (List.mem_of_getElem? (i := 518) (by decide +kernel)) rfl
theorem wm_X6_158 : Cond.methodLink RX6 158 yX6_refusalOf ∈ gx_ws := gx_in (List.mem_of_getElem? (i := 526) (by decide +kernel)) rfl
theorem wm_X6_162 : Cond.methodLink RX6 162 yX5_putPart ∈ gx_ws := gx_in (List.mem_of_getElem? (i := 533) (by decide +kernel)) rfl
theorem wm_X6_166 : Cond.methodLink RX6 166 yX5_moveMan ∈ gx_ws := gx_in (List.mem_of_getElem? (i := 549) (by decide +kernel)) rfl
theorem wm_X6_170 : Cond.methodLink RX6 170 yX5_passDays ∈ gx_ws := gx_in (List.mem_of_getElem? (i := 565) (by decide +kernel)) rfl
theorem wm_X6_173 : Cond.methodLink RX6 173 yX6_firstPairing ∈ gx_ws := gx_in (List.mem_of_getElem? (i := 583) (by decide +kernel)) rfl
theorem wm_X6_179 : Cond.methodLink RX6 179 yX6_bestDoorOfCall ∈ gx_ws := gx_in (List.mem_of_getElem? (i := 599) (by decide +kernel)) rfl
theorem wm_X6_182 : Cond.methodLink RX6 182 yX6_nameBehind ∈ gx_ws := gx_in (List.mem_of_getElem? (i := 624) (by decide +kernel)) rfl
theorem wm_X6_185 : Cond.methodLink RX6 185 yX6_nameWithSwap ∈ gx_ws := gx_in (List.mem_of_getElem? (i := 628) (by decide +kernel)) rfl
theorem wm_X6_188 : Cond.methodLink RX6 188 yX5_leaveOutCall ∈ gx_ws := gx_in (List.mem_of_getElem? (i := 636) (by decide +kernel)) rfl
theorem wm_X6_191 : Cond.methodLink RX6 191 yX6_mostNamedPart ∈ gx_ws := gx_in (List.mem_of_getElem? (i := 648) (by decide +kernel)) rfl
theorem wm_X6_197 : Cond.methodLink RX6 197 yX6_fractionByOdds ∈ gx_ws := gx_in (List.mem_of_getElem? (i := 661) (by decide +kernel)) rfl
theorem wm_X6_201 : Cond.methodLink RX6 201 yX2_add ∈ gx_ws := gx_in (List.mem_of_getElem? (i := 684) (by decide +kernel)) rfl
theorem wm_X6_204 : Cond.methodLink RX6 204 yX6_partsAsSeen ∈ gx_ws := gx_in (List.mem_of_getElem? (i := 696) (by decide +kernel)) rfl
theorem wm_X6_212 : Cond.methodLink RX6 212 yX6_mostAtOneDoor ∈ gx_ws := gx_in (List.mem_of_getElem? (i := 722) (by decide +kernel)) rfl
theorem wm_X6_216 : Cond.methodLink RX6 216 yX5_passDay ∈ gx_ws := gx_in (List.mem_of_getElem? (i := 668) (by decide +kernel)) rfl
theorem wm_X6_219 : Cond.methodLink RX6 219 yX5_metCount ∈ gx_ws := gx_in (List.mem_of_getElem? (i := 606) (by decide +kernel)) rfl
theorem wm_X6_226 : Cond.methodLink RX6 226 yX2_become ∈ gx_ws := gx_in (List.mem_of_getElem? (i := 735) (by decide +kernel)) rfl
theorem wm_X6_232 : Cond.methodLink RX6 232 yX1_makeNew ∈ gx_ws := gx_in (List.mem_of_getElem? (i := 751) (by decide +kernel)) rfl
theorem wm_X6_236 : Cond.methodLink RX6 236 yX1_faultAt ∈ gx_ws := gx_in (List.mem_of_getElem? (i := 760) (by decide +kernel)) rfl
theorem wm_X6_242 : Cond.methodLink RX6 242 yX1_lowestBits ∈ gx_ws := gx_in (List.mem_of_getElem? (i := 769) (by decide +kernel)) rfl
theorem wm_X6_245 : Cond.methodLink RX6 245 yX1_faultAtPair ∈ gx_ws := gx_in (List.mem_of_getElem? (i := 777) (by decide +kernel)) rfl
theorem wm_X6_251 : Cond.methodLink RX6 251 yX6_imagesKept ∈ gx_ws := gx_in (List.mem_of_getElem? (i := 790) (by decide +kernel)) rfl
theorem wm_X6_254 : Cond.methodLink RX6 254 yX1_isNothing ∈ gx_ws := gx_in (List.mem_of_getElem? (i := 794) (by decide +kernel)) rfl
theorem wm_X6_278 : Cond.methodLink RX6 278 yX6_trialGoesAsSeen ∈ gx_ws := gx_in (List.mem_of_getElem? (i := 700) (by decide +kernel)) rfl
theorem wm_X6_281 : Cond.methodLink RX6 281 yX2_lastDay ∈ gx_ws := gx_in (List.mem_of_getElem? (i := 704) (by decide +kernel)) rfl
theorem wm_X6_284 : Cond.methodLink RX6 284 yX2_fits ∈ gx_ws := gx_in (List.mem_of_getElem? (i := 709) (by decide +kernel)) rfl
theorem wd_X6_215 : Cond.constant RX6 215 (1103515245) ∈ gx_ws := gx_in (List.mem_of_getElem? (i := 730) (by decide +kernel)) rfl
theorem wd_X6_195 : Cond.constantLong RX6 195 (-1) ∈ gx_ws := gx_in (List.mem_of_getElem? (i := 660) (by decide +kernel)) rfl
theorem wd_X6_292 : Cond.constantLong RX6 292 (10) ∈ gx_ws := gx_in (List.mem_of_getElem? (i := 669) (by decide +kernel)) rfl
theorem wc_X6_16 : Cond.classLink RX6 16 RX2 ∈ gx_ws := gx_in (List.mem_of_getElem? (i := 156) (by decide +kernel)) rfl
theorem wc_X6_30 : Cond.classLink RX6 30 RX3 ∈ gx_ws := gx_in (List.mem_of_getElem? (i := 177) (by decide +kernel)) rfl
theorem wc_X6_37 : Cond.classLink RX6 37 RX4 ∈ gx_ws := gx_in (List.mem_of_getElem? (i := 194) (by decide +kernel)) rfl
theorem wm_X0_1 : Cond.methodLink RX0 1 objectInit ∈ gx_ws := gx_in (List.mem_of_getElem? (i := 242) (by decide +kernel)) rfl
theorem wn_X0_9 : (RX0, 9, yX5_init) ∈ gx_nest := by decide +kernel
theorem wn_X0_18 : (RX0, 18, yX2_init) ∈ gx_nest := by decide +kernel
theorem wc_X0_7 : Cond.classLink RX0 7 RX5 ∈ gx_ws := gx_in (List.mem_of_getElem? (i := 243) (by decide +kernel)) rfl
theorem wc_X0_16 : Cond.classLink RX0 16 RX2 ∈ gx_ws := gx_in (List.mem_of_getElem? (i := 245) (by decide +kernel)) rfl
theorem wf_X0_10 : Cond.fieldLink RX0 10 (TX0 0).1 (TX0 0).2.1 (TX0 0).2.2.1 ∈ gx_ws := gx_in (List.mem_of_getElem? (i := 247) (by decide +kernel)) rfl
theorem wf_X0_19 : Cond.fieldLink RX0 19 (TX0 1).1 (TX0 1).2.1 (TX0 1).2.2.1 ∈ gx_ws := gx_in (List.mem_of_getElem? (i := 249) (by decide +kernel)) rfl
theorem wf_X1_9 : Cond.fieldLink RX1 9 (TX1 0).1 (TX1 0).2.1 (TX1 0).2.2.1 ∈ gx_ws := gx_in (List.mem_of_getElem? (i := 264) (by decide +kernel)) rfl
theorem wf_X1_15 : Cond.fieldLink RX1 15 (TX1 1).1 (TX1 1).2.1 (TX1 1).2.2.1 ∈ gx_ws := gx_in (List.mem_of_getElem? (i := 266) (by decide +kernel)) rfl
theorem wf_X1_25 : Cond.fieldLink RX1 25 (TX1 2).1 (TX1 2).2.1 (TX1 2).2.2.1 ∈ gx_ws := gx_in (List.mem_of_getElem? (i := 267) (by decide +kernel)) rfl
theorem wm_X1_3 : Cond.methodLink RX1 3 objectInit ∈ gx_ws := gx_in (List.mem_of_getElem? (i := 263) (by decide +kernel)) rfl
theorem wm_X1_19 : Cond.methodLink RX1 19 yJ7_fill_53178 ∈ gx_ws := gx_in (List.mem_of_getElem? (i := 755) (by decide +kernel)) rfl
theorem wn_X1_32 : (RX1, 32, yX6_isWithin) ∈ gx_nest := by decide +kernel
theorem wm_X1_28 : Cond.methodLink RX1 28 yX1_isNothing ∈ gx_ws := gx_in (List.mem_of_getElem? (i := 764) (by decide +kernel)) rfl
theorem wm_X1_36 : Cond.methodLink RX1 36 yX1_faultAt ∈ gx_ws := gx_in (List.mem_of_getElem? (i := 781) (by decide +kernel)) rfl
theorem wf_X2_9 : Cond.fieldLink RX2 9 (TX2 0).1 (TX2 0).2.1 (TX2 0).2.2.1 ∈ gx_ws := gx_in (List.mem_of_getElem? (i := 162) (by decide +kernel)) rfl
theorem wf_X2_15 : Cond.fieldLink RX2 15 (TX2 1).1 (TX2 1).2.1 (TX2 1).2.2.1 ∈ gx_ws := gx_in (List.mem_of_getElem? (i := 163) (by decide +kernel)) rfl
theorem wf_X2_18 : Cond.fieldLink RX2 18 (TX2 2).1 (TX2 2).2.1 (TX2 2).2.2.1 ∈ gx_ws := gx_in (List.mem_of_getElem? (i := 164) (by decide +kernel)) rfl
theorem wf_X2_27 : Cond.fieldLink RX2 27 (TX2 3).1 (TX2 3).2.1 (TX2 3).2.2.1 ∈ gx_ws := gx_in (List.mem_of_getElem? (i := 165) (by decide +kernel)) rfl
theorem wf_X2_37 : Cond.fieldLink RX2 37 (TX5 2).1 (TX5 2).2.1 (TX5 2).2.2.1 ∈ gx_ws := gx_in (List.mem_of_getElem? (i := 108) (by decide +kernel)) rfl
theorem wm_X2_3 : Cond.methodLink RX2 3 objectInit ∈ gx_ws := gx_in (List.mem_of_getElem? (i := 161) (by decide +kernel)) rfl
theorem wm_X2_21 : Cond.methodLink RX2 21 arraycopyName ∈ gx_ws := gx_in (List.mem_of_getElem? (i := 739) (by decide +kernel)) rfl
theorem wm_X2_31 : Cond.methodLink RX2 31 yJ9_max_7cf53 ∈ gx_ws := gx_in (List.mem_of_getElem? (i := 708) (by decide +kernel)) rfl
theorem wm_X3_3 : Cond.methodLink RX3 3 objectInit ∈ gx_ws := gx_in (List.mem_of_getElem? (i := 182) (by decide +kernel)) rfl
theorem wf_X3_9 : Cond.fieldLink RX3 9 (TX3 0).1 (TX3 0).2.1 (TX3 0).2.2.1 ∈ gx_ws := gx_in (List.mem_of_getElem? (i := 183) (by decide +kernel)) rfl
theorem wf_X4_9 : Cond.fieldLink RX4 9 (TX4 0).1 (TX4 0).2.1 (TX4 0).2.2.1 ∈ gx_ws := gx_in (List.mem_of_getElem? (i := 200) (by decide +kernel)) rfl
theorem wf_X4_15 : Cond.fieldLink RX4 15 (TX4 1).1 (TX4 1).2.1 (TX4 1).2.2.1 ∈ gx_ws := gx_in (List.mem_of_getElem? (i := 201) (by decide +kernel)) rfl
theorem wf_X4_24 : Cond.fieldLink RX4 24 (TX4 2).1 (TX4 2).2.1 (TX4 2).2.2.1 ∈ gx_ws := gx_in (List.mem_of_getElem? (i := 202) (by decide +kernel)) rfl
theorem wf_X4_28 : Cond.fieldLink RX4 28 (TX4 5).1 (TX4 5).2.1 (TX4 5).2.2.1 ∈ gx_ws := gx_in (List.mem_of_getElem? (i := 205) (by decide +kernel)) rfl
theorem wf_X4_34 : Cond.fieldLink RX4 34 (TX4 9).1 (TX4 9).2.1 (TX4 9).2.2.1 ∈ gx_ws := gx_in (List.mem_of_getElem? (i := 211) (by decide +kernel)) rfl
theorem wf_X4_41 : Cond.fieldLink RX4 41 (TX4 3).1 (TX4 3).2.1 (TX4 3).2.2.1 ∈ gx_ws := gx_in (List.mem_of_getElem? (i := 203) (by decide +kernel)) rfl
theorem wf_X4_58 : Cond.fieldLink RX4 58 (TX5 0).1 (TX5 0).2.1 (TX5 0).2.2.1 ∈ gx_ws := gx_in (List.mem_of_getElem? (i := 103) (by decide +kernel)) rfl
theorem wf_X4_72 : Cond.fieldLink RX4 72 (TX5 6).1 (TX5 6).2.1 (TX5 6).2.2.1 ∈ gx_ws := gx_in (List.mem_of_getElem? (i := 120) (by decide +kernel)) rfl
theorem wf_X4_75 : Cond.fieldLink RX4 75 (TX5 1).1 (TX5 1).2.1 (TX5 1).2.2.1 ∈ gx_ws := gx_in (List.mem_of_getElem? (i := 106) (by decide +kernel)) rfl
theorem wf_X4_81 : Cond.fieldLink RX4 81 (TX5 2).1 (TX5 2).2.1 (TX5 2).2.2.1 ∈ gx_ws := gx_in (List.mem_of_getElem? (i := 109) (by decide +kernel)) rfl
theorem wf_X4_84 : Cond.fieldLink RX4 84 (TX4 4).1 (TX4 4).2.1 (TX4 4).2.2.1 ∈ gx_ws := gx_in (List.mem_of_getElem? (i := 204) (by decide +kernel)) rfl
theorem wf_X4_87 : Cond.fieldLink RX4 87 (TX5 3).1 (TX5 3).2.1 (TX5 3).2.2.1 ∈ gx_ws := gx_in (List.mem_of_getElem? (i := 112) (by decide +kernel)) rfl
theorem wf_X4_93 : Cond.fieldLink RX4 93 (TX5 4).1 (TX5 4).2.1 (TX5 4).2.2.1 ∈ gx_ws := gx_in (List.mem_of_getElem? (i := 115) (by decide +kernel)) rfl
theorem wf_X4_96 : Cond.fieldLink RX4 96 (TX4 6).1 (TX4 6).2.1 (TX4 6).2.2.1 ∈ gx_ws := gx_in (List.mem_of_getElem? (i := 206) (by decide +kernel)) rfl
theorem wf_X4_105 : Cond.fieldLink RX4 105 (TX3 1).1 (TX3 1).2.1 (TX3 1).2.2.1 ∈ gx_ws := gx_in (List.mem_of_getElem? (i := 187) (by decide +kernel)) rfl
theorem wf_X4_110 : Cond.fieldLink RX4 110 (TX3 0).1 (TX3 0).2.1 (TX3 0).2.2.1 ∈ gx_ws := gx_in (List.mem_of_getElem? (i := 185) (by decide +kernel)) rfl
theorem wf_X4_114 : Cond.fieldLink RX4 114 (TX4 7).1 (TX4 7).2.1 (TX4 7).2.2.1 ∈ gx_ws := gx_in (List.mem_of_getElem? (i := 208) (by decide +kernel)) rfl
theorem wm_X4_3 : Cond.methodLink RX4 3 objectInit ∈ gx_ws := gx_in (List.mem_of_getElem? (i := 199) (by decide +kernel)) rfl
theorem wm_X4_117 : Cond.methodLink RX4 117 yX4_isLetter ∈ gx_ws := gx_in (List.mem_of_getElem? (i := 337) (by decide +kernel)) rfl
theorem wm_X4_123 : Cond.methodLink RX4 123 yX4_isFigure ∈ gx_ws := gx_in (List.mem_of_getElem? (i := 344) (by decide +kernel)) rfl
theorem wm_X4_129 : Cond.methodLink RX4 129 yX4_spellingOf ∈ gx_ws := gx_in (List.mem_of_getElem? (i := 363) (by decide +kernel)) rfl
theorem wm_X4_19 : Cond.methodLink RX4 19 yX5_makeEmpty ∈ gx_ws := gx_in (List.mem_of_getElem? (i := 326) (by decide +kernel)) rfl
theorem wm_X4_37 : Cond.methodLink RX4 37 yX4_readsToken ∈ gx_ws := gx_in (List.mem_of_getElem? (i := 333) (by decide +kernel)) rfl
theorem wm_X4_44 : Cond.methodLink RX4 44 yX4_takesLine ∈ gx_ws := gx_in (List.mem_of_getElem? (i := 355) (by decide +kernel)) rfl
theorem wm_X4_47 : Cond.methodLink RX4 47 yX4_wordRead ∈ gx_ws := gx_in (List.mem_of_getElem? (i := 359) (by decide +kernel)) rfl
theorem wm_X4_51 : Cond.methodLink RX4 51 yX4_refuses ∈ gx_ws := gx_in (List.mem_of_getElem? (i := 351) (by decide +kernel)) rfl
theorem wm_X4_55 : Cond.methodLink RX4 55 yX4_takesGlove ∈ gx_ws := gx_in (List.mem_of_getElem? (i := 425) (by decide +kernel)) rfl
theorem wm_X4_62 : Cond.methodLink RX4 62 yX4_takesRow ∈ gx_ws := gx_in (List.mem_of_getElem? (i := 437) (by decide +kernel)) rfl
theorem wm_X4_66 : Cond.methodLink RX4 66 yX4_takesRoute ∈ gx_ws := gx_in (List.mem_of_getElem? (i := 441) (by decide +kernel)) rfl
theorem wm_X4_69 : Cond.methodLink RX4 69 yX4_takesMan ∈ gx_ws := gx_in (List.mem_of_getElem? (i := 445) (by decide +kernel)) rfl
theorem wm_X4_78 : Cond.methodLink RX4 78 yX4_takesNumber ∈ gx_ws := gx_in (List.mem_of_getElem? (i := 429) (by decide +kernel)) rfl
theorem wm_X4_90 : Cond.methodLink RX4 90 yX4_takesMark ∈ gx_ws := gx_in (List.mem_of_getElem? (i := 433) (by decide +kernel)) rfl
theorem wm_X4_120 : Cond.methodLink RX4 120 yX4_readsWord ∈ gx_ws := gx_in (List.mem_of_getElem? (i := 340) (by decide +kernel)) rfl
theorem wm_X4_126 : Cond.methodLink RX4 126 yX4_readsNumber ∈ gx_ws := gx_in (List.mem_of_getElem? (i := 347) (by decide +kernel)) rfl
theorem wm_X4_133 : Cond.methodLink RX4 133 yX4_isSpelled ∈ gx_ws := gx_in (List.mem_of_getElem? (i := 373) (by decide +kernel)) rfl
theorem wm_X4_137 : Cond.methodLink RX4 137 yJ0_length_8abf5 ∈ gx_ws := gx_in (List.mem_of_getElem? (i := 377) (by decide +kernel)) rfl
theorem wm_X4_141 : Cond.methodLink RX4 141 yJ0_charAt_5068e ∈ gx_ws := gx_in (List.mem_of_getElem? (i := 387) (by decide +kernel)) rfl
theorem wf_X4_31 : Cond.fieldLink RX4 31 (TX4 8).1 (TX4 8).2.1 (TX4 8).2.2.1 ∈ gx_ws := gx_in (List.mem_of_getElem? (i := 209) (by decide +kernel)) rfl
theorem wf_X4_99 : Cond.fieldLink RX4 99 (TX5 7).1 (TX5 7).2.1 (TX5 7).2.2.1 ∈ gx_ws := gx_in (List.mem_of_getElem? (i := 123) (by decide +kernel)) rfl
theorem wf_X4_102 : Cond.fieldLink RX4 102 (TX5 8).1 (TX5 8).2.1 (TX5 8).2.2.1 ∈ gx_ws := gx_in (List.mem_of_getElem? (i := 127) (by decide +kernel)) rfl
theorem wf_X5_9 : Cond.fieldLink RX5 9 (TX5 0).1 (TX5 0).2.1 (TX5 0).2.2.1 ∈ gx_ws := gx_in (List.mem_of_getElem? (i := 102) (by decide +kernel)) rfl
theorem wf_X5_15 : Cond.fieldLink RX5 15 (TX5 1).1 (TX5 1).2.1 (TX5 1).2.2.1 ∈ gx_ws := gx_in (List.mem_of_getElem? (i := 105) (by decide +kernel)) rfl
theorem wf_X5_18 : Cond.fieldLink RX5 18 (TX5 2).1 (TX5 2).2.1 (TX5 2).2.2.1 ∈ gx_ws := gx_in (List.mem_of_getElem? (i := 107) (by decide +kernel)) rfl
theorem wf_X5_21 : Cond.fieldLink RX5 21 (TX5 3).1 (TX5 3).2.1 (TX5 3).2.2.1 ∈ gx_ws := gx_in (List.mem_of_getElem? (i := 111) (by decide +kernel)) rfl
theorem wf_X5_24 : Cond.fieldLink RX5 24 (TX5 4).1 (TX5 4).2.1 (TX5 4).2.2.1 ∈ gx_ws := gx_in (List.mem_of_getElem? (i := 114) (by decide +kernel)) rfl
theorem wf_X5_33 : Cond.fieldLink RX5 33 (TX5 5).1 (TX5 5).2.1 (TX5 5).2.2.1 ∈ gx_ws := gx_in (List.mem_of_getElem? (i := 117) (by decide +kernel)) rfl
theorem wf_X5_37 : Cond.fieldLink RX5 37 (TX5 6).1 (TX5 6).2.1 (TX5 6).2.2.1 ∈ gx_ws := gx_in (List.mem_of_getElem? (i := 119) (by decide +kernel)) rfl
theorem wf_X5_40 : Cond.fieldLink RX5 40 (TX5 7).1 (TX5 7).2.1 (TX5 7).2.2.1 ∈ gx_ws := gx_in (List.mem_of_getElem? (i := 122) (by decide +kernel)) rfl
theorem wf_X5_43 : Cond.fieldLink RX5 43 (TX5 8).1 (TX5 8).2.1 (TX5 8).2.2.1 ∈ gx_ws := gx_in (List.mem_of_getElem? (i := 125) (by decide +kernel)) rfl
theorem wf_X5_46 : Cond.fieldLink RX5 46 (TX5 9).1 (TX5 9).2.1 (TX5 9).2.2.1 ∈ gx_ws := gx_in (List.mem_of_getElem? (i := 128) (by decide +kernel)) rfl
theorem wf_X5_49 : Cond.fieldLink RX5 49 (TX5 10).1 (TX5 10).2.1 (TX5 10).2.2.1 ∈ gx_ws := gx_in (List.mem_of_getElem? (i := 130) (by decide +kernel)) rfl
theorem wm_X5_3 : Cond.methodLink RX5 3 objectInit ∈ gx_ws := gx_in (List.mem_of_getElem? (i := 101) (by decide +kernel)) rfl
theorem wm_X5_27 : Cond.methodLink RX5 27 yJ7_fill_53178 ∈ gx_ws := gx_in (List.mem_of_getElem? (i := 330) (by decide +kernel)) rfl
theorem wm_X5_52 : Cond.methodLink RX5 52 arraycopyName ∈ gx_ws := gx_in (List.mem_of_getElem? (i := 453) (by decide +kernel)) rfl
theorem wm_X5_65 : Cond.methodLink RX5 65 yJ6_bitCount_0f7a4 ∈ gx_ws := gx_in (List.mem_of_getElem? (i := 610) (by decide +kernel)) rfl
theorem wn_X5_71 : (RX5, 71, yX6_farOf) ∈ gx_nest := by decide +kernel
theorem wm_X5_82 : Cond.methodLink RX5 82 yJ9_min_7cf53 ∈ gx_ws := gx_in (List.mem_of_getElem? (i := 577) (by decide +kernel)) rfl
theorem wm_X5_58 : Cond.methodLink RX5 58 yX5_isPaired ∈ gx_ws := gx_in (List.mem_of_getElem? (i := 472) (by decide +kernel)) rfl
theorem wm_X5_62 : Cond.methodLink RX5 62 yX5_isCold ∈ gx_ws := gx_in (List.mem_of_getElem? (i := 468) (by decide +kernel)) rfl
theorem wm_X5_75 : Cond.methodLink RX5 75 yX5_passDay ∈ gx_ws := gx_in (List.mem_of_getElem? (i := 569) (by decide +kernel)) rfl
theorem wm_X5_79 : Cond.methodLink RX5 79 yX5_passDayOfGlove ∈ gx_ws := gx_in (List.mem_of_getElem? (i := 573) (by decide +kernel)) rfl
theorem wm_X5_87 : Cond.methodLink RX5 87 yX5_stepOf ∈ gx_ws := gx_in (List.mem_of_getElem? (i := 578) (by decide +kernel)) rfl
theorem wm_L_9 : Cond.methodLink RL 9 yX6_init ∈ gx_ws := gx_in (List.mem_of_getElem? (i := 90) (by decide +kernel)) rfl
theorem wm_L_12 : Cond.methodLink RL 12 yX7_init ∈ gx_ws := gx_in (List.mem_of_getElem? (i := 800) (by decide +kernel)) rfl
theorem wm_L_13 : Cond.methodLink RL 13 yX6_feed ∈ gx_ws := gx_in (List.mem_of_getElem? (i := 307) (by decide +kernel)) rfl
theorem wm_L_17 : Cond.methodLink RL 17 yX7_feed ∈ gx_ws := gx_in (List.mem_of_getElem? (i := 904) (by decide +kernel)) rfl
theorem wm_L_18 : Cond.methodLink RL 18 yX6_end ∈ gx_ws := gx_in (List.mem_of_getElem? (i := 314) (by decide +kernel)) rfl
theorem wm_L_21 : Cond.methodLink RL 21 yX7_end ∈ gx_ws := gx_in (List.mem_of_getElem? (i := 912) (by decide +kernel)) rfl
theorem wm_L_22 : Cond.methodLink RL 22 yX6_text ∈ gx_ws := gx_in (List.mem_of_getElem? (i := 318) (by decide +kernel)) rfl
theorem wm_L_26 : Cond.methodLink RL 26 yX7_text ∈ gx_ws := gx_in (List.mem_of_getElem? (i := 916) (by decide +kernel)) rfl
theorem wm_L_27 : Cond.methodLink RL 27 yX6_fault ∈ gx_ws := gx_in (List.mem_of_getElem? (i := 456) (by decide +kernel)) rfl
theorem wm_L_30 : Cond.methodLink RL 30 yX7_fault ∈ gx_ws := gx_in (List.mem_of_getElem? (i := 976) (by decide +kernel)) rfl
theorem wm_L_31 : Cond.methodLink RL 31 yX6_rule ∈ gx_ws := gx_in (List.mem_of_getElem? (i := 460) (by decide +kernel)) rfl
theorem wm_L_34 : Cond.methodLink RL 34 yX7_rule ∈ gx_ws := gx_in (List.mem_of_getElem? (i := 980) (by decide +kernel)) rfl
theorem wm_L_35 : Cond.methodLink RL 35 yX6_glove ∈ gx_ws := gx_in (List.mem_of_getElem? (i := 476) (by decide +kernel)) rfl
theorem wm_L_39 : Cond.methodLink RL 39 yX7_glove ∈ gx_ws := gx_in (List.mem_of_getElem? (i := 1011) (by decide +kernel)) rfl
theorem wm_L_40 : Cond.methodLink RL 40 yX6_door ∈ gx_ws := gx_in (List.mem_of_getElem? (i := 503) (by decide +kernel)) rfl
theorem wm_L_43 : Cond.methodLink RL 43 yX7_door ∈ gx_ws := gx_in (List.mem_of_getElem? (i := 1030) (by decide +kernel)) rfl
theorem wm_L_44 : Cond.methodLink RL 44 yX6_stop ∈ gx_ws := gx_in (List.mem_of_getElem? (i := 514) (by decide +kernel)) rfl
theorem wm_L_47 : Cond.methodLink RL 47 yX7_stop ∈ gx_ws := gx_in (List.mem_of_getElem? (i := 1041) (by decide +kernel)) rfl
theorem wm_L_48 : Cond.methodLink RL 48 yX6_alter ∈ gx_ws := gx_in (List.mem_of_getElem? (i := 522) (by decide +kernel)) rfl
theorem wm_L_52 : Cond.methodLink RL 52 yX7_alter ∈ gx_ws := gx_in (List.mem_of_getElem? (i := 1049) (by decide +kernel)) rfl
theorem wm_L_53 : Cond.methodLink RL 53 yX6_fame ∈ gx_ws := gx_in (List.mem_of_getElem? (i := 537) (by decide +kernel)) rfl
theorem wm_L_56 : Cond.methodLink RL 56 yX7_fame ∈ gx_ws := gx_in (List.mem_of_getElem? (i := 1063) (by decide +kernel)) rfl
theorem wm_L_57 : Cond.methodLink RL 57 yX6_leave ∈ gx_ws := gx_in (List.mem_of_getElem? (i := 541) (by decide +kernel)) rfl
theorem wm_L_60 : Cond.methodLink RL 60 yX7_leave ∈ gx_ws := gx_in (List.mem_of_getElem? (i := 1068) (by decide +kernel)) rfl
theorem wm_L_61 : Cond.methodLink RL 61 yX6_go ∈ gx_ws := gx_in (List.mem_of_getElem? (i := 545) (by decide +kernel)) rfl
theorem wm_L_64 : Cond.methodLink RL 64 yX7_go ∈ gx_ws := gx_in (List.mem_of_getElem? (i := 1072) (by decide +kernel)) rfl
theorem wm_L_65 : Cond.methodLink RL 65 yX6_call ∈ gx_ws := gx_in (List.mem_of_getElem? (i := 553) (by decide +kernel)) rfl
theorem wm_L_68 : Cond.methodLink RL 68 yX7_call ∈ gx_ws := gx_in (List.mem_of_getElem? (i := 1076) (by decide +kernel)) rfl
theorem wm_L_69 : Cond.methodLink RL 69 yX6_cut ∈ gx_ws := gx_in (List.mem_of_getElem? (i := 557) (by decide +kernel)) rfl
theorem wm_L_72 : Cond.methodLink RL 72 yX7_cut ∈ gx_ws := gx_in (List.mem_of_getElem? (i := 1080) (by decide +kernel)) rfl
theorem wm_L_73 : Cond.methodLink RL 73 yX6_days ∈ gx_ws := gx_in (List.mem_of_getElem? (i := 561) (by decide +kernel)) rfl
theorem wm_L_76 : Cond.methodLink RL 76 yX7_days ∈ gx_ws := gx_in (List.mem_of_getElem? (i := 1084) (by decide +kernel)) rfl
theorem wm_L_77 : Cond.methodLink RL 77 yX6_runs ∈ gx_ws := gx_in (List.mem_of_getElem? (i := 579) (by decide +kernel)) rfl
theorem wm_L_80 : Cond.methodLink RL 80 yX7_runs ∈ gx_ws := gx_in (List.mem_of_getElem? (i := 1124) (by decide +kernel)) rfl
theorem wm_L_81 : Cond.methodLink RL 81 yX6_ahead ∈ gx_ws := gx_in (List.mem_of_getElem? (i := 587) (by decide +kernel)) rfl
theorem wm_L_84 : Cond.methodLink RL 84 yX7_ahead ∈ gx_ws := gx_in (List.mem_of_getElem? (i := 1133) (by decide +kernel)) rfl
theorem wm_L_85 : Cond.methodLink RL 85 yX6_meets ∈ gx_ws := gx_in (List.mem_of_getElem? (i := 591) (by decide +kernel)) rfl
theorem wm_L_88 : Cond.methodLink RL 88 yX7_meets ∈ gx_ws := gx_in (List.mem_of_getElem? (i := 1137) (by decide +kernel)) rfl
theorem wm_L_89 : Cond.methodLink RL 89 yX6_place ∈ gx_ws := gx_in (List.mem_of_getElem? (i := 595) (by decide +kernel)) rfl
theorem wm_L_92 : Cond.methodLink RL 92 yX7_place ∈ gx_ws := gx_in (List.mem_of_getElem? (i := 1141) (by decide +kernel)) rfl
theorem wm_L_93 : Cond.methodLink RL 93 yX6_extra ∈ gx_ws := gx_in (List.mem_of_getElem? (i := 616) (by decide +kernel)) rfl
theorem wm_L_96 : Cond.methodLink RL 96 yX7_extra ∈ gx_ws := gx_in (List.mem_of_getElem? (i := 1165) (by decide +kernel)) rfl
theorem wm_L_97 : Cond.methodLink RL 97 yX6_swap ∈ gx_ws := gx_in (List.mem_of_getElem? (i := 620) (by decide +kernel)) rfl
theorem wm_L_100 : Cond.methodLink RL 100 yX7_swap ∈ gx_ws := gx_in (List.mem_of_getElem? (i := 1169) (by decide +kernel)) rfl
theorem wm_L_101 : Cond.methodLink RL 101 yX6_shun ∈ gx_ws := gx_in (List.mem_of_getElem? (i := 632) (by decide +kernel)) rfl
theorem wm_L_104 : Cond.methodLink RL 104 yX7_shun ∈ gx_ws := gx_in (List.mem_of_getElem? (i := 1173) (by decide +kernel)) rfl
theorem wm_L_105 : Cond.methodLink RL 105 yX6_need ∈ gx_ws := gx_in (List.mem_of_getElem? (i := 640) (by decide +kernel)) rfl
theorem wm_L_108 : Cond.methodLink RL 108 yX7_need ∈ gx_ws := gx_in (List.mem_of_getElem? (i := 1177) (by decide +kernel)) rfl
theorem wm_L_109 : Cond.methodLink RL 109 yX6_kind ∈ gx_ws := gx_in (List.mem_of_getElem? (i := 644) (by decide +kernel)) rfl
theorem wm_L_112 : Cond.methodLink RL 112 yX7_kind ∈ gx_ws := gx_in (List.mem_of_getElem? (i := 1181) (by decide +kernel)) rfl
theorem wm_L_113 : Cond.methodLink RL 113 yX6_drop ∈ gx_ws := gx_in (List.mem_of_getElem? (i := 652) (by decide +kernel)) rfl
theorem wm_L_116 : Cond.methodLink RL 116 yX7_drop ∈ gx_ws := gx_in (List.mem_of_getElem? (i := 1185) (by decide +kernel)) rfl
theorem wm_L_117 : Cond.methodLink RL 117 yX6_luck ∈ gx_ws := gx_in (List.mem_of_getElem? (i := 656) (by decide +kernel)) rfl
theorem wm_L_121 : Cond.methodLink RL 121 yX7_luck ∈ gx_ws := gx_in (List.mem_of_getElem? (i := 1189) (by decide +kernel)) rfl
theorem wm_L_122 : Cond.methodLink RL 122 yX6_mean ∈ gx_ws := gx_in (List.mem_of_getElem? (i := 676) (by decide +kernel)) rfl
theorem wm_L_126 : Cond.methodLink RL 126 yX7_mean ∈ gx_ws := gx_in (List.mem_of_getElem? (i := 1206) (by decide +kernel)) rfl
theorem wm_L_127 : Cond.methodLink RL 127 yX6_see ∈ gx_ws := gx_in (List.mem_of_getElem? (i := 680) (by decide +kernel)) rfl
theorem wm_L_130 : Cond.methodLink RL 130 yX7_see ∈ gx_ws := gx_in (List.mem_of_getElem? (i := 1210) (by decide +kernel)) rfl
theorem wm_L_131 : Cond.methodLink RL 131 yX6_forget ∈ gx_ws := gx_in (List.mem_of_getElem? (i := 688) (by decide +kernel)) rfl
theorem wm_L_134 : Cond.methodLink RL 134 yX7_forget ∈ gx_ws := gx_in (List.mem_of_getElem? (i := 1214) (by decide +kernel)) rfl
theorem wm_L_135 : Cond.methodLink RL 135 yX6_kinds ∈ gx_ws := gx_in (List.mem_of_getElem? (i := 692) (by decide +kernel)) rfl
theorem wm_L_138 : Cond.methodLink RL 138 yX7_kinds ∈ gx_ws := gx_in (List.mem_of_getElem? (i := 1218) (by decide +kernel)) rfl
theorem wm_L_139 : Cond.methodLink RL 139 yX6_doors ∈ gx_ws := gx_in (List.mem_of_getElem? (i := 713) (by decide +kernel)) rfl
theorem wm_L_142 : Cond.methodLink RL 142 yX7_doors ∈ gx_ws := gx_in (List.mem_of_getElem? (i := 1230) (by decide +kernel)) rfl
theorem wm_L_143 : Cond.methodLink RL 143 yX6_ask ∈ gx_ws := gx_in (List.mem_of_getElem? (i := 717) (by decide +kernel)) rfl
theorem wm_L_146 : Cond.methodLink RL 146 yX7_ask ∈ gx_ws := gx_in (List.mem_of_getElem? (i := 1234) (by decide +kernel)) rfl
theorem wm_L_147 : Cond.methodLink RL 147 yX6_drift ∈ gx_ws := gx_in (List.mem_of_getElem? (i := 726) (by decide +kernel)) rfl
theorem wm_L_150 : Cond.methodLink RL 150 yX7_drift ∈ gx_ws := gx_in (List.mem_of_getElem? (i := 1238) (by decide +kernel)) rfl
theorem wm_L_151 : Cond.methodLink RL 151 yX6_keep ∈ gx_ws := gx_in (List.mem_of_getElem? (i := 731) (by decide +kernel)) rfl
theorem wm_L_154 : Cond.methodLink RL 154 yX7_keep ∈ gx_ws := gx_in (List.mem_of_getElem? (i := 1243) (by decide +kernel)) rfl
theorem wm_L_155 : Cond.methodLink RL 155 yX6_back ∈ gx_ws := gx_in (List.mem_of_getElem? (i := 740) (by decide +kernel)) rfl
theorem wm_L_158 : Cond.methodLink RL 158 yX7_back ∈ gx_ws := gx_in (List.mem_of_getElem? (i := 1251) (by decide +kernel)) rfl
theorem wm_L_159 : Cond.methodLink RL 159 yX6_sheet ∈ gx_ws := gx_in (List.mem_of_getElem? (i := 744) (by decide +kernel)) rfl
theorem wm_L_162 : Cond.methodLink RL 162 yX7_sheet ∈ gx_ws := gx_in (List.mem_of_getElem? (i := 1255) (by decide +kernel)) rfl
theorem wm_L_163 : Cond.methodLink RL 163 yX6_lay ∈ gx_ws := gx_in (List.mem_of_getElem? (i := 756) (by decide +kernel)) rfl
theorem wm_L_166 : Cond.methodLink RL 166 yX7_lay ∈ gx_ws := gx_in (List.mem_of_getElem? (i := 1263) (by decide +kernel)) rfl
theorem wm_L_167 : Cond.methodLink RL 167 yX6_read ∈ gx_ws := gx_in (List.mem_of_getElem? (i := 773) (by decide +kernel)) rfl
theorem wm_L_171 : Cond.methodLink RL 171 yX7_read ∈ gx_ws := gx_in (List.mem_of_getElem? (i := 1267) (by decide +kernel)) rfl
theorem wm_L_172 : Cond.methodLink RL 172 yX6_torn ∈ gx_ws := gx_in (List.mem_of_getElem? (i := 782) (by decide +kernel)) rfl
theorem wm_L_175 : Cond.methodLink RL 175 yX7_torn ∈ gx_ws := gx_in (List.mem_of_getElem? (i := 1272) (by decide +kernel)) rfl
theorem wm_L_176 : Cond.methodLink RL 176 yX6_count ∈ gx_ws := gx_in (List.mem_of_getElem? (i := 786) (by decide +kernel)) rfl
