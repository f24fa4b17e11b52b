theorem wV_X6_count : Cond.selects RX6 yX6_count yX6_count ∈ gx_ws := gx_in (List.mem_of_getElem? (i := 785) (by decide +kernel)) rfl
theorem wC_X6_isWithin : Cond.code yX6_isWithin cX6_isWithin 2 (some .boolean) ∈ gx_ws := gx_in (List.mem_of_getElem? (i := 314) (by decide +kernel)) rfl
theorem wS_X6_isWithin : gx_St yX6_isWithin mX6_isWithin 2 := ⟨wC_X6_isWithin, wI_X6, ⟨by decide +kernel, by decide +kernel, by decide +kernel⟩, by decide⟩
theorem wT_X6_isWithin : Cond.static yX6_isWithin ∈ gx_ws := gx_in (List.mem_of_getElem? (i := 313) (by decide +kernel)) rfl
theorem wC_X6_isDoor : Cond.code yX6_isDoor cX6_isDoor 1 (some .boolean) ∈ gx_ws := gx_in (List.mem_of_getElem? (i := 504) (by decide +kernel)) rfl
theorem wS_X6_isDoor : gx_St yX6_isDoor mX6_isDoor 1 := ⟨wC_X6_isDoor, wI_X6, ⟨by decide +kernel, by decide +kernel, by decide +kernel⟩, by decide⟩
theorem wT_X6_isDoor : Cond.static yX6_isDoor ∈ gx_ws := gx_in (List.mem_of_getElem? (i := 503) (by decide +kernel)) rfl
theorem wC_X6_isSheet : Cond.code yX6_isSheet cX6_isSheet 1 (some .boolean) ∈ gx_ws := gx_in (List.mem_of_getElem? (i := 747) (by decide +kernel)) rfl
theorem wS_X6_isSheet : gx_St yX6_isSheet mX6_isSheet 1 := ⟨wC_X6_isSheet, wI_X6, ⟨by decide +kernel, by decide +kernel, by decide +kernel⟩, by decide⟩
theorem wT_X6_isSheet : Cond.static yX6_isSheet ∈ gx_ws := gx_in (List.mem_of_getElem? (i := 746) (by decide +kernel)) rfl
theorem wC_X6_isGlove : Cond.code yX6_isGlove cX6_isGlove 2 (some .boolean) ∈ gx_ws := gx_in (List.mem_of_getElem? (i := 484) (by decide +kernel)) rfl
theorem wS_X6_isGlove : gx_St yX6_isGlove mX6_isGlove 1 := ⟨wC_X6_isGlove, wI_X6, ⟨by decide +kernel, by decide +kernel, by decide +kernel⟩, by decide⟩
theorem wM_X6_isGlove : Cond.instanceMethod yX6_isGlove ∈ gx_ws := gx_in (List.mem_of_getElem? (i := 483) (by decide +kernel)) rfl
theorem wV_X6_isGlove : Cond.selects RX6 yX6_isGlove yX6_isGlove ∈ gx_ws := gx_in (List.mem_of_getElem? (i := 13) (by decide +kernel)) rfl
theorem wC_X6_isCall : Cond.code yX6_isCall cX6_isCall 2 (some .boolean) ∈ gx_ws := gx_in (List.mem_of_getElem? (i := 516) (by decide +kernel)) rfl
theorem wS_X6_isCall : gx_St yX6_isCall mX6_isCall 1 := ⟨wC_X6_isCall, wI_X6, ⟨by decide +kernel, by decide +kernel, by decide +kernel⟩, by decide⟩
theorem wM_X6_isCall : Cond.instanceMethod yX6_isCall ∈ gx_ws := gx_in (List.mem_of_getElem? (i := 515) (by decide +kernel)) rfl
theorem wV_X6_isCall : Cond.selects RX6 yX6_isCall yX6_isCall ∈ gx_ws := gx_in (List.mem_of_getElem? (i := 14) (by decide +kernel)) rfl
theorem wC_X6_greatestOf : Cond.code yX6_greatestOf cX6_greatestOf 1 (some .int) ∈ gx_ws := gx_in (List.mem_of_getElem? (i := 527) (by decide +kernel)) rfl
theorem wS_X6_greatestOf : gx_St yX6_greatestOf mX6_greatestOf 1 := ⟨wC_X6_greatestOf, wI_X6, ⟨by decide +kernel, by decide +kernel, by decide +kernel⟩, by decide⟩
theorem wT_X6_greatestOf : Cond.static yX6_greatestOf ∈ gx_ws := gx_in (List.mem_of_getElem? (i := 526) (by decide +kernel)) rfl
theorem wC_X6_refusalOf : Cond.code yX6_refusalOf cX6_refusalOf 4 (some .int) ∈ gx_ws := gx_in (List.mem_of_getElem? (i := 524) (by decide +kernel)) rfl
theorem wS_X6_refusalOf : gx_St yX6_refusalOf mX6_refusalOf 3 := ⟨wC_X6_refusalOf, wI_X6, ⟨by decide +kernel, by decide +kernel, by decide +kernel⟩, by decide⟩
theorem wM_X6_refusalOf : Cond.instanceMethod yX6_refusalOf ∈ gx_ws := gx_in (List.mem_of_getElem? (i := 523) (by decide +kernel)) rfl
theorem wV_X6_refusalOf : Cond.selects RX6 yX6_refusalOf yX6_refusalOf ∈ gx_ws := gx_in (List.mem_of_getElem? (i := 15) (by decide +kernel)) rfl
theorem wC_X6_farOf : Cond.code yX6_farOf cX6_farOf 3 (some .int) ∈ gx_ws := gx_in (List.mem_of_getElem? (i := 492) (by decide +kernel)) rfl
theorem wS_X6_farOf : gx_St yX6_farOf mX6_farOf 2 := ⟨wC_X6_farOf, wI_X6, ⟨by decide +kernel, by decide +kernel, by decide +kernel⟩, by decide⟩
theorem wT_X6_farOf : Cond.static yX6_farOf ∈ gx_ws := gx_in (List.mem_of_getElem? (i := 491) (by decide +kernel)) rfl
theorem wC_X6_sumOf : Cond.code yX6_sumOf cX6_sumOf 4 (some .int) ∈ gx_ws := gx_in (List.mem_of_getElem? (i := 794) (by decide +kernel)) rfl
theorem wS_X6_sumOf : gx_St yX6_sumOf mX6_sumOf 2 := ⟨wC_X6_sumOf, wI_X6, ⟨by decide +kernel, by decide +kernel, by decide +kernel⟩, by decide⟩
theorem wT_X6_sumOf : Cond.static yX6_sumOf ∈ gx_ws := gx_in (List.mem_of_getElem? (i := 793) (by decide +kernel)) rfl
theorem wC_X6_imagesKept : Cond.code yX6_imagesKept cX6_imagesKept 3 (some .int) ∈ gx_ws := gx_in (List.mem_of_getElem? (i := 790) (by decide +kernel)) rfl
theorem wS_X6_imagesKept : gx_St yX6_imagesKept mX6_imagesKept 0 := ⟨wC_X6_imagesKept, wI_X6, ⟨by decide +kernel, by decide +kernel, by decide +kernel⟩, by decide⟩
theorem wM_X6_imagesKept : Cond.instanceMethod yX6_imagesKept ∈ gx_ws := gx_in (List.mem_of_getElem? (i := 789) (by decide +kernel)) rfl
theorem wV_X6_imagesKept : Cond.selects RX6 yX6_imagesKept yX6_imagesKept ∈ gx_ws := gx_in (List.mem_of_getElem? (i := 26) (by decide +kernel)) rfl
theorem wC_X6_firstPairing : Cond.code yX6_firstPairing cX6_firstPairing 4 (some .int) ∈ gx_ws := gx_in (List.mem_of_getElem? (i := 583) (by decide +kernel)) rfl
theorem wS_X6_firstPairing : gx_St yX6_firstPairing mX6_firstPairing 2 := ⟨wC_X6_firstPairing, wI_X6, ⟨by decide +kernel, by decide +kernel, by decide +kernel⟩, by decide⟩
theorem wM_X6_firstPairing : Cond.instanceMethod yX6_firstPairing ∈ gx_ws := gx_in (List.mem_of_getElem? (i := 582) (by decide +kernel)) rfl
theorem wV_X6_firstPairing : Cond.selects RX6 yX6_firstPairing yX6_firstPairing ∈ gx_ws := gx_in (List.mem_of_getElem? (i := 17) (by decide +kernel)) rfl
theorem wC_X6_nameBehind : Cond.code yX6_nameBehind cX6_nameBehind 2 (some .int) ∈ gx_ws := gx_in (List.mem_of_getElem? (i := 624) (by decide +kernel)) rfl
theorem wS_X6_nameBehind : gx_St yX6_nameBehind mX6_nameBehind 1 := ⟨wC_X6_nameBehind, wI_X6, ⟨by decide +kernel, by decide +kernel, by decide +kernel⟩, by decide⟩
theorem wM_X6_nameBehind : Cond.instanceMethod yX6_nameBehind ∈ gx_ws := gx_in (List.mem_of_getElem? (i := 623) (by decide +kernel)) rfl
theorem wV_X6_nameBehind : Cond.selects RX6 yX6_nameBehind yX6_nameBehind ∈ gx_ws := gx_in (List.mem_of_getElem? (i := 19) (by decide +kernel)) rfl
theorem wC_X6_nameWithSwap : Cond.code yX6_nameWithSwap cX6_nameWithSwap 4 (some .int) ∈ gx_ws := gx_in (List.mem_of_getElem? (i := 628) (by decide +kernel)) rfl
theorem wS_X6_nameWithSwap : gx_St yX6_nameWithSwap mX6_nameWithSwap 3 := ⟨wC_X6_nameWithSwap, wI_X6, ⟨by decide +kernel, by decide +kernel, by decide +kernel⟩, by decide⟩
theorem wM_X6_nameWithSwap : Cond.instanceMethod yX6_nameWithSwap ∈ gx_ws := gx_in (List.mem_of_getElem? (i := 627) (by decide +kernel)) rfl
theorem wV_X6_nameWithSwap : Cond.selects RX6 yX6_nameWithSwap yX6_nameWithSwap ∈ gx_ws := gx_in (List.mem_of_getElem? (i := 20) (by decide +kernel)) rfl
theorem wC_X6_bestDoorOfCall : Cond.code yX6_bestDoorOfCall cX6_bestDoorOfCall 8 (some .int) ∈ gx_ws := gx_in (List.mem_of_getElem? (i := 599) (by decide +kernel)) rfl
theorem wS_X6_bestDoorOfCall : gx_St yX6_bestDoorOfCall mX6_bestDoorOfCall 3 := ⟨wC_X6_bestDoorOfCall, wI_X6, ⟨by decide +kernel, by decide +kernel, by decide +kernel⟩, by decide⟩
theorem wM_X6_bestDoorOfCall : Cond.instanceMethod yX6_bestDoorOfCall ∈ gx_ws := gx_in (List.mem_of_getElem? (i := 598) (by decide +kernel)) rfl
theorem wV_X6_bestDoorOfCall : Cond.selects RX6 yX6_bestDoorOfCall yX6_bestDoorOfCall ∈ gx_ws := gx_in (List.mem_of_getElem? (i := 18) (by decide +kernel)) rfl
theorem wC_X6_mostNamedPart : Cond.code yX6_mostNamedPart cX6_mostNamedPart 8 (some .int) ∈ gx_ws := gx_in (List.mem_of_getElem? (i := 648) (by decide +kernel)) rfl
theorem wS_X6_mostNamedPart : gx_St yX6_mostNamedPart mX6_mostNamedPart 4 := ⟨wC_X6_mostNamedPart, wI_X6, ⟨by decide +kernel, by decide +kernel, by decide +kernel⟩, by decide⟩
theorem wM_X6_mostNamedPart : Cond.instanceMethod yX6_mostNamedPart ∈ gx_ws := gx_in (List.mem_of_getElem? (i := 647) (by decide +kernel)) rfl
theorem wV_X6_mostNamedPart : Cond.selects RX6 yX6_mostNamedPart yX6_mostNamedPart ∈ gx_ws := gx_in (List.mem_of_getElem? (i := 21) (by decide +kernel)) rfl
theorem wC_X6_partsAsSeen : Cond.code yX6_partsAsSeen cX6_partsAsSeen 5 (some .int) ∈ gx_ws := gx_in (List.mem_of_getElem? (i := 696) (by decide +kernel)) rfl
theorem wS_X6_partsAsSeen : gx_St yX6_partsAsSeen mX6_partsAsSeen 2 := ⟨wC_X6_partsAsSeen, wI_X6, ⟨by decide +kernel, by decide +kernel, by decide +kernel⟩, by decide⟩
theorem wM_X6_partsAsSeen : Cond.instanceMethod yX6_partsAsSeen ∈ gx_ws := gx_in (List.mem_of_getElem? (i := 695) (by decide +kernel)) rfl
theorem wV_X6_partsAsSeen : Cond.selects RX6 yX6_partsAsSeen yX6_partsAsSeen ∈ gx_ws := gx_in (List.mem_of_getElem? (i := 23) (by decide +kernel)) rfl
theorem wC_X6_trialGoesAsSeen : Cond.code yX6_trialGoesAsSeen cX6_trialGoesAsSeen 3 (some .boolean) ∈ gx_ws := gx_in (List.mem_of_getElem? (i := 700) (by decide +kernel)) rfl
theorem wS_X6_trialGoesAsSeen : gx_St yX6_trialGoesAsSeen mX6_trialGoesAsSeen 0 := ⟨wC_X6_trialGoesAsSeen, wI_X6, ⟨by decide +kernel, by decide +kernel, by decide +kernel⟩, by decide⟩
theorem wM_X6_trialGoesAsSeen : Cond.instanceMethod yX6_trialGoesAsSeen ∈ gx_ws := gx_in (List.mem_of_getElem? (i := 699) (by decide +kernel)) rfl
theorem wV_X6_trialGoesAsSeen : Cond.selects RX6 yX6_trialGoesAsSeen yX6_trialGoesAsSeen ∈ gx_ws := gx_in (List.mem_of_getElem? (i := 24) (by decide +kernel)) rfl
theorem wC_X6_mostAtOneDoor : Cond.code yX6_mostAtOneDoor cX6_mostAtOneDoor 7 (some .int) ∈ gx_ws := gx_in (List.mem_of_getElem? (i := 722) (by decide +kernel)) rfl
theorem wS_X6_mostAtOneDoor : gx_St yX6_mostAtOneDoor mX6_mostAtOneDoor 2 := ⟨wC_X6_mostAtOneDoor, wI_X6, ⟨by decide +kernel, by decide +kernel, by decide +kernel⟩, by decide⟩
theorem wM_X6_mostAtOneDoor : Cond.instanceMethod yX6_mostAtOneDoor ∈ gx_ws := gx_in (List.mem_of_getElem? (i := 721) (by decide +kernel)) rfl
theorem wV_X6_mostAtOneDoor : Cond.selects RX6 yX6_mostAtOneDoor yX6_mostAtOneDoor ∈ gx_ws := gx_in (List.mem_of_getElem? (i := 25) (by decide +kernel)) rfl
theorem wC_X6_fractionByOdds : Cond.code yX6_fractionByOdds cX6_fractionByOdds 11 (some .long) ∈ gx_ws := gx_in (List.mem_of_getElem? (i := 661) (by decide +kernel)) rfl
theorem wS_X6_fractionByOdds : gx_St yX6_fractionByOdds mX6_fractionByOdds 4 := ⟨wC_X6_fractionByOdds, wI_X6, ⟨by decide +kernel, by decide +kernel, by decide +kernel⟩, by decide⟩
theorem wM_X6_fractionByOdds : Cond.instanceMethod yX6_fractionByOdds ∈ gx_ws := gx_in (List.mem_of_getElem? (i := 660) (by decide +kernel)) rfl
theorem wV_X6_fractionByOdds : Cond.selects RX6 yX6_fractionByOdds yX6_fractionByOdds ∈ gx_ws := gx_in (List.mem_of_getElem? (i := 22) (by decide +kernel)) rfl
theorem wC_X6_weighedBranches : Cond.code yX6_weighedBranches cX6_weighedBranches 9 (some .long) ∈ gx_ws := gx_in (List.mem_of_getElem? (i := 664) (by decide +kernel)) rfl
theorem wS_X6_weighedBranches : gx_St yX6_weighedBranches mX6_weighedBranches 5 := ⟨wC_X6_weighedBranches, wI_X6, ⟨by decide +kernel, by decide +kernel, by decide +kernel⟩, by decide⟩
theorem wT_X6_weighedBranches : Cond.static yX6_weighedBranches ∈ gx_ws := gx_in (List.mem_of_getElem? (i := 663) (by decide +kernel)) rfl
theorem wC_X6_commonDivisor : Cond.code yX6_commonDivisor cX6_commonDivisor 11 (some .long) ∈ gx_ws := gx_in (List.mem_of_getElem? (i := 669) (by decide +kernel)) rfl
theorem wS_X6_commonDivisor : gx_St yX6_commonDivisor mX6_commonDivisor 2 := ⟨wC_X6_commonDivisor, wI_X6, ⟨by decide +kernel, by decide +kernel, by decide +kernel⟩, by decide⟩
theorem wT_X6_commonDivisor : Cond.static yX6_commonDivisor ∈ gx_ws := gx_in (List.mem_of_getElem? (i := 668) (by decide +kernel)) rfl
theorem wC_X7_init : Cond.code yX7_init cX7_init 2 none ∈ gx_ws := gx_in (List.mem_of_getElem? (i := 799) (by decide +kernel)) rfl
theorem wS_X7_init : gx_St yX7_init mX7_init 0 := ⟨wC_X7_init, wI_X7, ⟨by decide +kernel, by decide +kernel, by decide +kernel⟩, by decide⟩
theorem wM_X7_init : Cond.instanceMethod yX7_init ∈ gx_ws := gx_in (List.mem_of_getElem? (i := 798) (by decide +kernel)) rfl
theorem wC_X7_in : Cond.code yX7_in cX7_in 6 (some .boolean) ∈ gx_ws := gx_in (List.mem_of_getElem? (i := 908) (by decide +kernel)) rfl
theorem wS_X7_in : gx_St yX7_in mX7_in 3 := ⟨wC_X7_in, wI_X7, ⟨by decide +kernel, by decide +kernel, by decide +kernel⟩, by decide⟩
theorem wT_X7_in : Cond.static yX7_in ∈ gx_ws := gx_in (List.mem_of_getElem? (i := 907) (by decide +kernel)) rfl
theorem wC_X7_flag : Cond.code yX7_flag cX7_flag 1 (some .int) ∈ gx_ws := gx_in (List.mem_of_getElem? (i := 999) (by decide +kernel)) rfl
theorem wS_X7_flag : gx_St yX7_flag mX7_flag 1 := ⟨wC_X7_flag, wI_X7, ⟨by decide +kernel, by decide +kernel, by decide +kernel⟩, by decide⟩
theorem wT_X7_flag : Cond.static yX7_flag ∈ gx_ws := gx_in (List.mem_of_getElem? (i := 998) (by decide +kernel)) rfl
theorem wC_X7_lesser : Cond.code yX7_lesser cX7_lesser 2 (some .int) ∈ gx_ws := gx_in (List.mem_of_getElem? (i := 1108) (by decide +kernel)) rfl
theorem wS_X7_lesser : gx_St yX7_lesser mX7_lesser 2 := ⟨wC_X7_lesser, wI_X7, ⟨by decide +kernel, by decide +kernel, by decide +kernel⟩, by decide⟩
theorem wT_X7_lesser : Cond.static yX7_lesser ∈ gx_ws := gx_in (List.mem_of_getElem? (i := 1107) (by decide +kernel)) rfl
theorem wC_X7_firstDraft : Cond.code yX7_firstDraft cX7_firstDraft 2 none ∈ gx_ws := gx_in (List.mem_of_getElem? (i := 804) (by decide +kernel)) rfl
theorem wS_X7_firstDraft : gx_St yX7_firstDraft mX7_firstDraft 0 := ⟨wC_X7_firstDraft, wI_X7, ⟨by decide +kernel, by decide +kernel, by decide +kernel⟩, by decide⟩
theorem wM_X7_firstDraft : Cond.instanceMethod yX7_firstDraft ∈ gx_ws := gx_in (List.mem_of_getElem? (i := 803) (by decide +kernel)) rfl
theorem wV_X7_firstDraft : Cond.selects RX7 yX7_firstDraft yX7_firstDraft ∈ gx_ws := gx_in (List.mem_of_getElem? (i := 27) (by decide +kernel)) rfl
theorem wC_X7_keepDraft : Cond.code yX7_keepDraft cX7_keepDraft 2 none ∈ gx_ws := gx_in (List.mem_of_getElem? (i := 808) (by decide +kernel)) rfl
theorem wS_X7_keepDraft : gx_St yX7_keepDraft mX7_keepDraft 0 := ⟨wC_X7_keepDraft, wI_X7, ⟨by decide +kernel, by decide +kernel, by decide +kernel⟩, by decide⟩
theorem wM_X7_keepDraft : Cond.instanceMethod yX7_keepDraft ∈ gx_ws := gx_in (List.mem_of_getElem? (i := 807) (by decide +kernel)) rfl
theorem wV_X7_keepDraft : Cond.selects RX7 yX7_keepDraft yX7_keepDraft ∈ gx_ws := gx_in (List.mem_of_getElem? (i := 28) (by decide +kernel)) rfl
theorem wC_X7_feed : Cond.code yX7_feed cX7_feed 2 (some .int) ∈ gx_ws := gx_in (List.mem_of_getElem? (i := 904) (by decide +kernel)) rfl
theorem wS_X7_feed : gx_St yX7_feed mX7_feed 1 := ⟨wC_X7_feed, wI_X7, ⟨by decide +kernel, by decide +kernel, by decide +kernel⟩, by decide⟩
theorem wM_X7_feed : Cond.instanceMethod yX7_feed ∈ gx_ws := gx_in (List.mem_of_getElem? (i := 902) (by decide +kernel)) rfl
theorem wV_X7_feed : Cond.selects RX7 yX7_feed yX7_feed ∈ gx_ws := gx_in (List.mem_of_getElem? (i := 903) (by decide +kernel)) rfl
theorem wC_X7_end : Cond.code yX7_end cX7_end 3 (some .int) ∈ gx_ws := gx_in (List.mem_of_getElem? (i := 912) (by decide +kernel)) rfl
theorem wS_X7_end : gx_St yX7_end mX7_end 1 := ⟨wC_X7_end, wI_X7, ⟨by decide +kernel, by decide +kernel, by decide +kernel⟩, by decide⟩
theorem wM_X7_end : Cond.instanceMethod yX7_end ∈ gx_ws := gx_in (List.mem_of_getElem? (i := 910) (by decide +kernel)) rfl
theorem wV_X7_end : Cond.selects RX7 yX7_end yX7_end ∈ gx_ws := gx_in (List.mem_of_getElem? (i := 911) (by decide +kernel)) rfl
theorem wC_X7_requires : Cond.code yX7_requires cX7_requires 3 none ∈ gx_ws := gx_in (List.mem_of_getElem? (i := 932) (by decide +kernel)) rfl
theorem wS_X7_requires : gx_St yX7_requires mX7_requires 2 := ⟨wC_X7_requires, wI_X7, ⟨by decide +kernel, by decide +kernel, by decide +kernel⟩, by decide⟩
theorem wM_X7_requires : Cond.instanceMethod yX7_requires ∈ gx_ws := gx_in (List.mem_of_getElem? (i := 931) (by decide +kernel)) rfl
theorem wV_X7_requires : Cond.selects RX7 yX7_requires yX7_requires ∈ gx_ws := gx_in (List.mem_of_getElem? (i := 31) (by decide +kernel)) rfl
theorem wC_X7_byteAt : Cond.code yX7_byteAt cX7_byteAt 2 (some .int) ∈ gx_ws := gx_in (List.mem_of_getElem? (i := 924) (by decide +kernel)) rfl
theorem wS_X7_byteAt : gx_St yX7_byteAt mX7_byteAt 1 := ⟨wC_X7_byteAt, wI_X7, ⟨by decide +kernel, by decide +kernel, by decide +kernel⟩, by decide⟩
theorem wM_X7_byteAt : Cond.instanceMethod yX7_byteAt ∈ gx_ws := gx_in (List.mem_of_getElem? (i := 923) (by decide +kernel)) rfl
theorem wV_X7_byteAt : Cond.selects RX7 yX7_byteAt yX7_byteAt ∈ gx_ws := gx_in (List.mem_of_getElem? (i := 30) (by decide +kernel)) rfl
theorem wC_X7_is : Cond.code yX7_is cX7_is 5 (some .boolean) ∈ gx_ws := gx_in (List.mem_of_getElem? (i := 944) (by decide +kernel)) rfl
theorem wS_X7_is : gx_St yX7_is mX7_is 4 := ⟨wC_X7_is, wI_X7, ⟨by decide +kernel, by decide +kernel, by decide +kernel⟩, by decide⟩
theorem wM_X7_is : Cond.instanceMethod yX7_is ∈ gx_ws := gx_in (List.mem_of_getElem? (i := 943) (by decide +kernel)) rfl
theorem wV_X7_is : Cond.selects RX7 yX7_is yX7_is ∈ gx_ws := gx_in (List.mem_of_getElem? (i := 34) (by decide +kernel)) rfl
theorem wC_X7_endsIn : Cond.code yX7_endsIn cX7_endsIn 4 (some .boolean) ∈ gx_ws := gx_in (List.mem_of_getElem? (i := 948) (by decide +kernel)) rfl
theorem wS_X7_endsIn : gx_St yX7_endsIn mX7_endsIn 3 := ⟨wC_X7_endsIn, wI_X7, ⟨by decide +kernel, by decide +kernel, by decide +kernel⟩, by decide⟩
theorem wM_X7_endsIn : Cond.instanceMethod yX7_endsIn ∈ gx_ws := gx_in (List.mem_of_getElem? (i := 947) (by decide +kernel)) rfl
theorem wV_X7_endsIn : Cond.selects RX7 yX7_endsIn yX7_endsIn ∈ gx_ws := gx_in (List.mem_of_getElem? (i := 35) (by decide +kernel)) rfl
theorem wC_X7_lineNow : Cond.code yX7_lineNow cX7_lineNow 1 (some .int) ∈ gx_ws := gx_in (List.mem_of_getElem? (i := 940) (by decide +kernel)) rfl
theorem wS_X7_lineNow : gx_St yX7_lineNow mX7_lineNow 0 := ⟨wC_X7_lineNow, wI_X7, ⟨by decide +kernel, by decide +kernel, by decide +kernel⟩, by decide⟩
theorem wM_X7_lineNow : Cond.instanceMethod yX7_lineNow ∈ gx_ws := gx_in (List.mem_of_getElem? (i := 939) (by decide +kernel)) rfl
theorem wV_X7_lineNow : Cond.selects RX7 yX7_lineNow yX7_lineNow ∈ gx_ws := gx_in (List.mem_of_getElem? (i := 33) (by decide +kernel)) rfl
theorem wC_X7_reads : Cond.code yX7_reads cX7_reads 2 none ∈ gx_ws := gx_in (List.mem_of_getElem? (i := 920) (by decide +kernel)) rfl
theorem wS_X7_reads : gx_St yX7_reads mX7_reads 0 := ⟨wC_X7_reads, wI_X7, ⟨by decide +kernel, by decide +kernel, by decide +kernel⟩, by decide⟩
theorem wM_X7_reads : Cond.instanceMethod yX7_reads ∈ gx_ws := gx_in (List.mem_of_getElem? (i := 919) (by decide +kernel)) rfl
theorem wV_X7_reads : Cond.selects RX7 yX7_reads yX7_reads ∈ gx_ws := gx_in (List.mem_of_getElem? (i := 29) (by decide +kernel)) rfl
theorem wC_X7_looked : Cond.code yX7_looked cX7_looked 3 (some .int) ∈ gx_ws := gx_in (List.mem_of_getElem? (i := 968) (by decide +kernel)) rfl
theorem wS_X7_looked : gx_St yX7_looked mX7_looked 2 := ⟨wC_X7_looked, wI_X7, ⟨by decide +kernel, by decide +kernel, by decide +kernel⟩, by decide⟩
theorem wM_X7_looked : Cond.instanceMethod yX7_looked ∈ gx_ws := gx_in (List.mem_of_getElem? (i := 967) (by decide +kernel)) rfl
theorem wV_X7_looked : Cond.selects RX7 yX7_looked yX7_looked ∈ gx_ws := gx_in (List.mem_of_getElem? (i := 40) (by decide +kernel)) rfl
theorem wC_X7_readNumber : Cond.code yX7_readNumber cX7_readNumber 4 (some .int) ∈ gx_ws := gx_in (List.mem_of_getElem? (i := 964) (by decide +kernel)) rfl
theorem wS_X7_readNumber : gx_St yX7_readNumber mX7_readNumber 2 := ⟨wC_X7_readNumber, wI_X7, ⟨by decide +kernel, by decide +kernel, by decide +kernel⟩, by decide⟩
theorem wM_X7_readNumber : Cond.instanceMethod yX7_readNumber ∈ gx_ws := gx_in (List.mem_of_getElem? (i := 963) (by decide +kernel)) rfl
theorem wV_X7_readNumber : Cond.selects RX7 yX7_readNumber yX7_readNumber ∈ gx_ws := gx_in (List.mem_of_getElem? (i := 39) (by decide +kernel)) rfl
theorem wC_X7_readFames : Cond.code yX7_readFames cX7_readFames 1 none ∈ gx_ws := gx_in (List.mem_of_getElem? (i := 960) (by decide +kernel)) rfl
theorem wS_X7_readFames : gx_St yX7_readFames mX7_readFames 0 := ⟨wC_X7_readFames, wI_X7, ⟨by decide +kernel, by decide +kernel, by decide +kernel⟩, by decide⟩
theorem wM_X7_readFames : Cond.instanceMethod yX7_readFames ∈ gx_ws := gx_in (List.mem_of_getElem? (i := 959) (by decide +kernel)) rfl
theorem wV_X7_readFames : Cond.selects RX7 yX7_readFames yX7_readFames ∈ gx_ws := gx_in (List.mem_of_getElem? (i := 38) (by decide +kernel)) rfl
theorem wC_X7_readRoute : Cond.code yX7_readRoute cX7_readRoute 1 none ∈ gx_ws := gx_in (List.mem_of_getElem? (i := 972) (by decide +kernel)) rfl
theorem wS_X7_readRoute : gx_St yX7_readRoute mX7_readRoute 0 := ⟨wC_X7_readRoute, wI_X7, ⟨by decide +kernel, by decide +kernel, by decide +kernel⟩, by decide⟩
theorem wM_X7_readRoute : Cond.instanceMethod yX7_readRoute ∈ gx_ws := gx_in (List.mem_of_getElem? (i := 971) (by decide +kernel)) rfl
theorem wV_X7_readRoute : Cond.selects RX7 yX7_readRoute yX7_readRoute ∈ gx_ws := gx_in (List.mem_of_getElem? (i := 41) (by decide +kernel)) rfl
theorem wC_X7_readLineOf : Cond.code yX7_readLineOf cX7_readLineOf 2 none ∈ gx_ws := gx_in (List.mem_of_getElem? (i := 956) (by decide +kernel)) rfl
theorem wS_X7_readLineOf : gx_St yX7_readLineOf mX7_readLineOf 1 := ⟨wC_X7_readLineOf, wI_X7, ⟨by decide +kernel, by decide +kernel, by decide +kernel⟩, by decide⟩
theorem wM_X7_readLineOf : Cond.instanceMethod yX7_readLineOf ∈ gx_ws := gx_in (List.mem_of_getElem? (i := 955) (by decide +kernel)) rfl
theorem wV_X7_readLineOf : Cond.selects RX7 yX7_readLineOf yX7_readLineOf ∈ gx_ws := gx_in (List.mem_of_getElem? (i := 37) (by decide +kernel)) rfl
theorem wC_X7_wasTold : Cond.code yX7_wasTold cX7_wasTold 2 (some .boolean) ∈ gx_ws := gx_in (List.mem_of_getElem? (i := 952) (by decide +kernel)) rfl
theorem wS_X7_wasTold : gx_St yX7_wasTold mX7_wasTold 1 := ⟨wC_X7_wasTold, wI_X7, ⟨by decide +kernel, by decide +kernel, by decide +kernel⟩, by decide⟩
theorem wM_X7_wasTold : Cond.instanceMethod yX7_wasTold ∈ gx_ws := gx_in (List.mem_of_getElem? (i := 951) (by decide +kernel)) rfl
theorem wV_X7_wasTold : Cond.selects RX7 yX7_wasTold yX7_wasTold ∈ gx_ws := gx_in (List.mem_of_getElem? (i := 36) (by decide +kernel)) rfl
theorem wC_X7_readLine : Cond.code yX7_readLine cX7_readLine 2 none ∈ gx_ws := gx_in (List.mem_of_getElem? (i := 936) (by decide +kernel)) rfl
theorem wS_X7_readLine : gx_St yX7_readLine mX7_readLine 0 := ⟨wC_X7_readLine, wI_X7, ⟨by decide +kernel, by decide +kernel, by decide +kernel⟩, by decide⟩
theorem wM_X7_readLine : Cond.instanceMethod yX7_readLine ∈ gx_ws := gx_in (List.mem_of_getElem? (i := 935) (by decide +kernel)) rfl
theorem wV_X7_readLine : Cond.selects RX7 yX7_readLine yX7_readLine ∈ gx_ws := gx_in (List.mem_of_getElem? (i := 32) (by decide +kernel)) rfl
theorem wC_X7_text : Cond.code yX7_text cX7_text 2 (some .int) ∈ gx_ws := gx_in (List.mem_of_getElem? (i := 916) (by decide +kernel)) rfl
theorem wS_X7_text : gx_St yX7_text mX7_text 0 := ⟨wC_X7_text, wI_X7, ⟨by decide +kernel, by decide +kernel, by decide +kernel⟩, by decide⟩
theorem wM_X7_text : Cond.instanceMethod yX7_text ∈ gx_ws := gx_in (List.mem_of_getElem? (i := 914) (by decide +kernel)) rfl
theorem wV_X7_text : Cond.selects RX7 yX7_text yX7_text ∈ gx_ws := gx_in (List.mem_of_getElem? (i := 915) (by decide +kernel)) rfl
theorem wC_X7_fault : Cond.code yX7_fault cX7_fault 1 (some .int) ∈ gx_ws := gx_in (List.mem_of_getElem? (i := 976) (by decide +kernel)) rfl
theorem wS_X7_fault : gx_St yX7_fault mX7_fault 0 := ⟨wC_X7_fault, wI_X7, ⟨by decide +kernel, by decide +kernel, by decide +kernel⟩, by decide⟩
theorem wM_X7_fault : Cond.instanceMethod yX7_fault ∈ gx_ws := gx_in (List.mem_of_getElem? (i := 974) (by decide +kernel)) rfl
theorem wV_X7_fault : Cond.selects RX7 yX7_fault yX7_fault ∈ gx_ws := gx_in (List.mem_of_getElem? (i := 975) (by decide +kernel)) rfl
theorem wC_X7_isGlove : Cond.code yX7_isGlove cX7_isGlove 2 (some .boolean) ∈ gx_ws := gx_in (List.mem_of_getElem? (i := 1015) (by decide +kernel)) rfl
theorem wS_X7_isGlove : gx_St yX7_isGlove mX7_isGlove 1 := ⟨wC_X7_isGlove, wI_X7, ⟨by decide +kernel, by decide +kernel, by decide +kernel⟩, by decide⟩
theorem wM_X7_isGlove : Cond.instanceMethod yX7_isGlove ∈ gx_ws := gx_in (List.mem_of_getElem? (i := 1014) (by decide +kernel)) rfl
theorem wV_X7_isGlove : Cond.selects RX7 yX7_isGlove yX7_isGlove ∈ gx_ws := gx_in (List.mem_of_getElem? (i := 48) (by decide +kernel)) rfl
theorem wC_X7_isDoor : Cond.code yX7_isDoor cX7_isDoor 1 (some .boolean) ∈ gx_ws := gx_in (List.mem_of_getElem? (i := 1033) (by decide +kernel)) rfl
theorem wS_X7_isDoor : gx_St yX7_isDoor mX7_isDoor 1 := ⟨wC_X7_isDoor, wI_X7, ⟨by decide +kernel, by decide +kernel, by decide +kernel⟩, by decide⟩
theorem wT_X7_isDoor : Cond.static yX7_isDoor ∈ gx_ws := gx_in (List.mem_of_getElem? (i := 1032) (by decide +kernel)) rfl
theorem wC_X7_isCall : Cond.code yX7_isCall cX7_isCall 2 (some .boolean) ∈ gx_ws := gx_in (List.mem_of_getElem? (i := 1045) (by decide +kernel)) rfl
theorem wS_X7_isCall : gx_St yX7_isCall mX7_isCall 1 := ⟨wC_X7_isCall, wI_X7, ⟨by decide +kernel, by decide +kernel, by decide +kernel⟩, by decide⟩
theorem wM_X7_isCall : Cond.instanceMethod yX7_isCall ∈ gx_ws := gx_in (List.mem_of_getElem? (i := 1044) (by decide +kernel)) rfl
theorem wV_X7_isCall : Cond.selects RX7 yX7_isCall yX7_isCall ∈ gx_ws := gx_in (List.mem_of_getElem? (i := 51) (by decide +kernel)) rfl
theorem wC_X7_isPart : Cond.code yX7_isPart cX7_isPart 1 (some .boolean) ∈ gx_ws := gx_in (List.mem_of_getElem? (i := 1037) (by decide +kernel)) rfl
theorem wS_X7_isPart : gx_St yX7_isPart mX7_isPart 1 := ⟨wC_X7_isPart, wI_X7, ⟨by decide +kernel, by decide +kernel, by decide +kernel⟩, by decide⟩
theorem wT_X7_isPart : Cond.static yX7_isPart ∈ gx_ws := gx_in (List.mem_of_getElem? (i := 1036) (by decide +kernel)) rfl
theorem wC_X7_starts : Cond.code yX7_starts cX7_starts 2 none ∈ gx_ws := gx_in (List.mem_of_getElem? (i := 984) (by decide +kernel)) rfl
theorem wS_X7_starts : gx_St yX7_starts mX7_starts 0 := ⟨wC_X7_starts, wI_X7, ⟨by decide +kernel, by decide +kernel, by decide +kernel⟩, by decide⟩
theorem wM_X7_starts : Cond.instanceMethod yX7_starts ∈ gx_ws := gx_in (List.mem_of_getElem? (i := 983) (by decide +kernel)) rfl
theorem wV_X7_starts : Cond.selects RX7 yX7_starts yX7_starts ∈ gx_ws := gx_in (List.mem_of_getElem? (i := 42) (by decide +kernel)) rfl
theorem wC_X7_settles : Cond.code yX7_settles cX7_settles 2 none ∈ gx_ws := gx_in (List.mem_of_getElem? (i := 1120) (by decide +kernel)) rfl
theorem wS_X7_settles : gx_St yX7_settles mX7_settles 0 := ⟨wC_X7_settles, wI_X7, ⟨by decide +kernel, by decide +kernel, by decide +kernel⟩, by decide⟩
theorem wM_X7_settles : Cond.instanceMethod yX7_settles ∈ gx_ws := gx_in (List.mem_of_getElem? (i := 1119) (by decide +kernel)) rfl
theorem wV_X7_settles : Cond.selects RX7 yX7_settles yX7_settles ∈ gx_ws := gx_in (List.mem_of_getElem? (i := 61) (by decide +kernel)) rfl
theorem wC_X7_of : Cond.code yX7_of cX7_of 3 (some .int) ∈ gx_ws := gx_in (List.mem_of_getElem? (i := 996) (by decide +kernel)) rfl
theorem wS_X7_of : gx_St yX7_of mX7_of 2 := ⟨wC_X7_of, wI_X7, ⟨by decide +kernel, by decide +kernel, by decide +kernel⟩, by decide⟩
theorem wM_X7_of : Cond.instanceMethod yX7_of ∈ gx_ws := gx_in (List.mem_of_getElem? (i := 995) (by decide +kernel)) rfl
theorem wV_X7_of : Cond.selects RX7 yX7_of yX7_of ∈ gx_ws := gx_in (List.mem_of_getElem? (i := 45) (by decide +kernel)) rfl
theorem wC_X7_becomesOf : Cond.code yX7_becomesOf cX7_becomesOf 4 none ∈ gx_ws := gx_in (List.mem_of_getElem? (i := 1112) (by decide +kernel)) rfl
theorem wS_X7_becomesOf : gx_St yX7_becomesOf mX7_becomesOf 3 := ⟨wC_X7_becomesOf, wI_X7, ⟨by decide +kernel, by decide +kernel, by decide +kernel⟩, by decide⟩
theorem wM_X7_becomesOf : Cond.instanceMethod yX7_becomesOf ∈ gx_ws := gx_in (List.mem_of_getElem? (i := 1111) (by decide +kernel)) rfl
theorem wV_X7_becomesOf : Cond.selects RX7 yX7_becomesOf yX7_becomesOf ∈ gx_ws := gx_in (List.mem_of_getElem? (i := 59) (by decide +kernel)) rfl
theorem wC_X7_isPaired : Cond.code yX7_isPaired cX7_isPaired 2 (some .boolean) ∈ gx_ws := gx_in (List.mem_of_getElem? (i := 992) (by decide +kernel)) rfl
theorem wS_X7_isPaired : gx_St yX7_isPaired mX7_isPaired 1 := ⟨wC_X7_isPaired, wI_X7, ⟨by decide +kernel, by decide +kernel, by decide +kernel⟩, by decide⟩
theorem wM_X7_isPaired : Cond.instanceMethod yX7_isPaired ∈ gx_ws := gx_in (List.mem_of_getElem? (i := 991) (by decide +kernel)) rfl
theorem wV_X7_isPaired : Cond.selects RX7 yX7_isPaired yX7_isPaired ∈ gx_ws := gx_in (List.mem_of_getElem? (i := 44) (by decide +kernel)) rfl
theorem wC_X7_isCold : Cond.code yX7_isCold cX7_isCold 2 (some .boolean) ∈ gx_ws := gx_in (List.mem_of_getElem? (i := 1007) (by decide +kernel)) rfl
theorem wS_X7_isCold : gx_St yX7_isCold mX7_isCold 1 := ⟨wC_X7_isCold, wI_X7, ⟨by decide +kernel, by decide +kernel, by decide +kernel⟩, by decide⟩
theorem wM_X7_isCold : Cond.instanceMethod yX7_isCold ∈ gx_ws := gx_in (List.mem_of_getElem? (i := 1006) (by decide +kernel)) rfl
theorem wV_X7_isCold : Cond.selects RX7 yX7_isCold yX7_isCold ∈ gx_ws := gx_in (List.mem_of_getElem? (i := 47) (by decide +kernel)) rfl
theorem wC_X7_doorOf : Cond.code yX7_doorOf cX7_doorOf 2 (some .int) ∈ gx_ws := gx_in (List.mem_of_getElem? (i := 1019) (by decide +kernel)) rfl
theorem wS_X7_doorOf : gx_St yX7_doorOf mX7_doorOf 1 := ⟨wC_X7_doorOf, wI_X7, ⟨by decide +kernel, by decide +kernel, by decide +kernel⟩, by decide⟩
theorem wM_X7_doorOf : Cond.instanceMethod yX7_doorOf ∈ gx_ws := gx_in (List.mem_of_getElem? (i := 1018) (by decide +kernel)) rfl
theorem wV_X7_doorOf : Cond.selects RX7 yX7_doorOf yX7_doorOf ∈ gx_ws := gx_in (List.mem_of_getElem? (i := 49) (by decide +kernel)) rfl
theorem wC_X7_apart : Cond.code yX7_apart cX7_apart 3 (some .int) ∈ gx_ws := gx_in (List.mem_of_getElem? (i := 1022) (by decide +kernel)) rfl
theorem wS_X7_apart : gx_St yX7_apart mX7_apart 2 := ⟨wC_X7_apart, wI_X7, ⟨by decide +kernel, by decide +kernel, by decide +kernel⟩, by decide⟩
theorem wT_X7_apart : Cond.static yX7_apart ∈ gx_ws := gx_in (List.mem_of_getElem? (i := 1021) (by decide +kernel)) rfl
theorem wC_X7_stepOf : Cond.code yX7_stepOf cX7_stepOf 6 (some .int) ∈ gx_ws := gx_in (List.mem_of_getElem? (i := 1026) (by decide +kernel)) rfl
theorem wS_X7_stepOf : gx_St yX7_stepOf mX7_stepOf 1 := ⟨wC_X7_stepOf, wI_X7, ⟨by decide +kernel, by decide +kernel, by decide +kernel⟩, by decide⟩
theorem wM_X7_stepOf : Cond.instanceMethod yX7_stepOf ∈ gx_ws := gx_in (List.mem_of_getElem? (i := 1025) (by decide +kernel)) rfl
theorem wV_X7_stepOf : Cond.selects RX7 yX7_stepOf yX7_stepOf ∈ gx_ws := gx_in (List.mem_of_getElem? (i := 50) (by decide +kernel)) rfl
theorem wC_X7_gloveGoes : Cond.code yX7_gloveGoes cX7_gloveGoes 3 none ∈ gx_ws := gx_in (List.mem_of_getElem? (i := 1105) (by decide +kernel)) rfl
theorem wS_X7_gloveGoes : gx_St yX7_gloveGoes mX7_gloveGoes 1 := ⟨wC_X7_gloveGoes, wI_X7, ⟨by decide +kernel, by decide +kernel, by decide +kernel⟩, by decide⟩
theorem wM_X7_gloveGoes : Cond.instanceMethod yX7_gloveGoes ∈ gx_ws := gx_in (List.mem_of_getElem? (i := 1104) (by decide +kernel)) rfl
theorem wV_X7_gloveGoes : Cond.selects RX7 yX7_gloveGoes yX7_gloveGoes ∈ gx_ws := gx_in (List.mem_of_getElem? (i := 58) (by decide +kernel)) rfl
theorem wC_X7_dayGoesAt : Cond.code yX7_dayGoesAt cX7_dayGoesAt 3 none ∈ gx_ws := gx_in (List.mem_of_getElem? (i := 1101) (by decide +kernel)) rfl
theorem wS_X7_dayGoesAt : gx_St yX7_dayGoesAt mX7_dayGoesAt 1 := ⟨wC_X7_dayGoesAt, wI_X7, ⟨by decide +kernel, by decide +kernel, by decide +kernel⟩, by decide⟩
theorem wM_X7_dayGoesAt : Cond.instanceMethod yX7_dayGoesAt ∈ gx_ws := gx_in (List.mem_of_getElem? (i := 1100) (by decide +kernel)) rfl
theorem wV_X7_dayGoesAt : Cond.selects RX7 yX7_dayGoesAt yX7_dayGoesAt ∈ gx_ws := gx_in (List.mem_of_getElem? (i := 57) (by decide +kernel)) rfl
theorem wC_X7_nextDoor : Cond.code yX7_nextDoor cX7_nextDoor 1 (some .int) ∈ gx_ws := gx_in (List.mem_of_getElem? (i := 1097) (by decide +kernel)) rfl
theorem wS_X7_nextDoor : gx_St yX7_nextDoor mX7_nextDoor 0 := ⟨wC_X7_nextDoor, wI_X7, ⟨by decide +kernel, by decide +kernel, by decide +kernel⟩, by decide⟩
theorem wM_X7_nextDoor : Cond.instanceMethod yX7_nextDoor ∈ gx_ws := gx_in (List.mem_of_getElem? (i := 1096) (by decide +kernel)) rfl
theorem wV_X7_nextDoor : Cond.selects RX7 yX7_nextDoor yX7_nextDoor ∈ gx_ws := gx_in (List.mem_of_getElem? (i := 56) (by decide +kernel)) rfl
theorem wC_X7_daysGo : Cond.code yX7_daysGo cX7_daysGo 3 none ∈ gx_ws := gx_in (List.mem_of_getElem? (i := 1093) (by decide +kernel)) rfl
theorem wS_X7_daysGo : gx_St yX7_daysGo mX7_daysGo 1 := ⟨wC_X7_daysGo, wI_X7, ⟨by decide +kernel, by decide +kernel, by decide +kernel⟩, by decide⟩
theorem wM_X7_daysGo : Cond.instanceMethod yX7_daysGo ∈ gx_ws := gx_in (List.mem_of_getElem? (i := 1092) (by decide +kernel)) rfl
theorem wV_X7_daysGo : Cond.selects RX7 yX7_daysGo yX7_daysGo ∈ gx_ws := gx_in (List.mem_of_getElem? (i := 55) (by decide +kernel)) rfl
theorem wC_X7_nameMore : Cond.code yX7_nameMore cX7_nameMore 1 (some .int) ∈ gx_ws := gx_in (List.mem_of_getElem? (i := 1116) (by decide +kernel)) rfl
theorem wS_X7_nameMore : gx_St yX7_nameMore mX7_nameMore 0 := ⟨wC_X7_nameMore, wI_X7, ⟨by decide +kernel, by decide +kernel, by decide +kernel⟩, by decide⟩
theorem wM_X7_nameMore : Cond.instanceMethod yX7_nameMore ∈ gx_ws := gx_in (List.mem_of_getElem? (i := 1115) (by decide +kernel)) rfl
theorem wV_X7_nameMore : Cond.selects RX7 yX7_nameMore yX7_nameMore ∈ gx_ws := gx_in (List.mem_of_getElem? (i := 60) (by decide +kernel)) rfl
theorem wC_X7_nameBehind : Cond.code yX7_nameBehind cX7_nameBehind 2 (some .int) ∈ gx_ws := gx_in (List.mem_of_getElem? (i := 1089) (by decide +kernel)) rfl
theorem wS_X7_nameBehind : gx_St yX7_nameBehind mX7_nameBehind 1 := ⟨wC_X7_nameBehind, wI_X7, ⟨by decide +kernel, by decide +kernel, by decide +kernel⟩, by decide⟩
theorem wM_X7_nameBehind : Cond.instanceMethod yX7_nameBehind ∈ gx_ws := gx_in (List.mem_of_getElem? (i := 1088) (by decide +kernel)) rfl
theorem wV_X7_nameBehind : Cond.selects RX7 yX7_nameBehind yX7_nameBehind ∈ gx_ws := gx_in (List.mem_of_getElem? (i := 54) (by decide +kernel)) rfl
theorem wC_X7_pairedNow : Cond.code yX7_pairedNow cX7_pairedNow 3 (some .int) ∈ gx_ws := gx_in (List.mem_of_getElem? (i := 988) (by decide +kernel)) rfl
theorem wS_X7_pairedNow : gx_St yX7_pairedNow mX7_pairedNow 0 := ⟨wC_X7_pairedNow, wI_X7, ⟨by decide +kernel, by decide +kernel, by decide +kernel⟩, by decide⟩
theorem wM_X7_pairedNow : Cond.instanceMethod yX7_pairedNow ∈ gx_ws := gx_in (List.mem_of_getElem? (i := 987) (by decide +kernel)) rfl
theorem wV_X7_pairedNow : Cond.selects RX7 yX7_pairedNow yX7_pairedNow ∈ gx_ws := gx_in (List.mem_of_getElem? (i := 43) (by decide +kernel)) rfl
theorem wC_X7_coldNow : Cond.code yX7_coldNow cX7_coldNow 3 (some .int) ∈ gx_ws := gx_in (List.mem_of_getElem? (i := 1003) (by decide +kernel)) rfl
theorem wS_X7_coldNow : gx_St yX7_coldNow mX7_coldNow 0 := ⟨wC_X7_coldNow, wI_X7, ⟨by decide +kernel, by decide +kernel, by decide +kernel⟩, by decide⟩
theorem wM_X7_coldNow : Cond.instanceMethod yX7_coldNow ∈ gx_ws := gx_in (List.mem_of_getElem? (i := 1002) (by decide +kernel)) rfl
theorem wV_X7_coldNow : Cond.selects RX7 yX7_coldNow yX7_coldNow ∈ gx_ws := gx_in (List.mem_of_getElem? (i := 46) (by decide +kernel)) rfl
theorem wC_X7_metMany : Cond.code yX7_metMany cX7_metMany 3 (some .int) ∈ gx_ws := gx_in (List.mem_of_getElem? (i := 1153) (by decide +kernel)) rfl
theorem wS_X7_metMany : gx_St yX7_metMany mX7_metMany 0 := ⟨wC_X7_metMany, wI_X7, ⟨by decide +kernel, by decide +kernel, by decide +kernel⟩, by decide⟩
theorem wM_X7_metMany : Cond.instanceMethod yX7_metMany ∈ gx_ws := gx_in (List.mem_of_getElem? (i := 1152) (by decide +kernel)) rfl
theorem wV_X7_metMany : Cond.selects RX7 yX7_metMany yX7_metMany ∈ gx_ws := gx_in (List.mem_of_getElem? (i := 64) (by decide +kernel)) rfl
theorem wC_X7_metBehind : Cond.code yX7_metBehind cX7_metBehind 2 (some .int) ∈ gx_ws := gx_in (List.mem_of_getElem? (i := 1149) (by decide +kernel)) rfl
theorem wS_X7_metBehind : gx_St yX7_metBehind mX7_metBehind 1 := ⟨wC_X7_metBehind, wI_X7, ⟨by decide +kernel, by decide +kernel, by decide +kernel⟩, by decide⟩
theorem wM_X7_metBehind : Cond.instanceMethod yX7_metBehind ∈ gx_ws := gx_in (List.mem_of_getElem? (i := 1148) (by decide +kernel)) rfl
theorem wV_X7_metBehind : Cond.selects RX7 yX7_metBehind yX7_metBehind ∈ gx_ws := gx_in (List.mem_of_getElem? (i := 63) (by decide +kernel)) rfl
theorem wC_X7_rule : Cond.code yX7_rule cX7_rule 2 (some .int) ∈ gx_ws := gx_in (List.mem_of_getElem? (i := 980) (by decide +kernel)) rfl
theorem wS_X7_rule : gx_St yX7_rule mX7_rule 1 := ⟨wC_X7_rule, wI_X7, ⟨by decide +kernel, by decide +kernel, by decide +kernel⟩, by decide⟩
theorem wM_X7_rule : Cond.instanceMethod yX7_rule ∈ gx_ws := gx_in (List.mem_of_getElem? (i := 978) (by decide +kernel)) rfl
theorem wV_X7_rule : Cond.selects RX7 yX7_rule yX7_rule ∈ gx_ws := gx_in (List.mem_of_getElem? (i := 979) (by decide +kernel)) rfl
theorem wC_X7_glove : Cond.code yX7_glove cX7_glove 3 (some .int) ∈ gx_ws := gx_in (List.mem_of_getElem? (i := 1011) (by decide +kernel)) rfl
theorem wS_X7_glove : gx_St yX7_glove mX7_glove 2 := ⟨wC_X7_glove, wI_X7, ⟨by decide +kernel, by decide +kernel, by decide +kernel⟩, by decide⟩
theorem wM_X7_glove : Cond.instanceMethod yX7_glove ∈ gx_ws := gx_in (List.mem_of_getElem? (i := 1009) (by decide +kernel)) rfl
theorem wV_X7_glove : Cond.selects RX7 yX7_glove yX7_glove ∈ gx_ws := gx_in (List.mem_of_getElem? (i := 1010) (by decide +kernel)) rfl
theorem wC_X7_door : Cond.code yX7_door cX7_door 5 (some .int) ∈ gx_ws := gx_in (List.mem_of_getElem? (i := 1030) (by decide +kernel)) rfl
theorem wS_X7_door : gx_St yX7_door mX7_door 2 := ⟨wC_X7_door, wI_X7, ⟨by decide +kernel, by decide +kernel, by decide +kernel⟩, by decide⟩
theorem wM_X7_door : Cond.instanceMethod yX7_door ∈ gx_ws := gx_in (List.mem_of_getElem? (i := 1028) (by decide +kernel)) rfl
theorem wV_X7_door : Cond.selects RX7 yX7_door yX7_door ∈ gx_ws := gx_in (List.mem_of_getElem? (i := 1029) (by decide +kernel)) rfl
theorem wC_X7_stop : Cond.code yX7_stop cX7_stop 2 (some .int) ∈ gx_ws := gx_in (List.mem_of_getElem? (i := 1041) (by decide +kernel)) rfl
theorem wS_X7_stop : gx_St yX7_stop mX7_stop 1 := ⟨wC_X7_stop, wI_X7, ⟨by decide +kernel, by decide +kernel, by decide +kernel⟩, by decide⟩
theorem wM_X7_stop : Cond.instanceMethod yX7_stop ∈ gx_ws := gx_in (List.mem_of_getElem? (i := 1039) (by decide +kernel)) rfl
theorem wV_X7_stop : Cond.selects RX7 yX7_stop yX7_stop ∈ gx_ws := gx_in (List.mem_of_getElem? (i := 1040) (by decide +kernel)) rfl
theorem wC_X7_becomes : Cond.code yX7_becomes cX7_becomes 4 (some .int) ∈ gx_ws := gx_in (List.mem_of_getElem? (i := 1059) (by decide +kernel)) rfl
theorem wS_X7_becomes : gx_St yX7_becomes mX7_becomes 2 := ⟨wC_X7_becomes, wI_X7, ⟨by decide +kernel, by decide +kernel, by decide +kernel⟩, by decide⟩
theorem wM_X7_becomes : Cond.instanceMethod yX7_becomes ∈ gx_ws := gx_in (List.mem_of_getElem? (i := 1058) (by decide +kernel)) rfl
theorem wV_X7_becomes : Cond.selects RX7 yX7_becomes yX7_becomes ∈ gx_ws := gx_in (List.mem_of_getElem? (i := 53) (by decide +kernel)) rfl
theorem wC_X7_wasPaired : Cond.code yX7_wasPaired cX7_wasPaired 2 (some .boolean) ∈ gx_ws := gx_in (List.mem_of_getElem? (i := 1055) (by decide +kernel)) rfl
theorem wS_X7_wasPaired : gx_St yX7_wasPaired mX7_wasPaired 1 := ⟨wC_X7_wasPaired, wI_X7, ⟨by decide +kernel, by decide +kernel, by decide +kernel⟩, by decide⟩
theorem wM_X7_wasPaired : Cond.instanceMethod yX7_wasPaired ∈ gx_ws := gx_in (List.mem_of_getElem? (i := 1054) (by decide +kernel)) rfl
theorem wV_X7_wasPaired : Cond.selects RX7 yX7_wasPaired yX7_wasPaired ∈ gx_ws := gx_in (List.mem_of_getElem? (i := 52) (by decide +kernel)) rfl
theorem wC_X7_alter : Cond.code yX7_alter cX7_alter 5 (some .int) ∈ gx_ws := gx_in (List.mem_of_getElem? (i := 1049) (by decide +kernel)) rfl
theorem wS_X7_alter : gx_St yX7_alter mX7_alter 3 := ⟨wC_X7_alter, wI_X7, ⟨by decide +kernel, by decide +kernel, by decide +kernel⟩, by decide⟩
theorem wM_X7_alter : Cond.instanceMethod yX7_alter ∈ gx_ws := gx_in (List.mem_of_getElem? (i := 1047) (by decide +kernel)) rfl
theorem wV_X7_alter : Cond.selects RX7 yX7_alter yX7_alter ∈ gx_ws := gx_in (List.mem_of_getElem? (i := 1048) (by decide +kernel)) rfl
theorem wC_X7_fame : Cond.code yX7_fame cX7_fame 3 (some .int) ∈ gx_ws := gx_in (List.mem_of_getElem? (i := 1063) (by decide +kernel)) rfl
theorem wS_X7_fame : gx_St yX7_fame mX7_fame 2 := ⟨wC_X7_fame, wI_X7, ⟨by decide +kernel, by decide +kernel, by decide +kernel⟩, by decide⟩
theorem wM_X7_fame : Cond.instanceMethod yX7_fame ∈ gx_ws := gx_in (List.mem_of_getElem? (i := 1061) (by decide +kernel)) rfl
theorem wV_X7_fame : Cond.selects RX7 yX7_fame yX7_fame ∈ gx_ws := gx_in (List.mem_of_getElem? (i := 1062) (by decide +kernel)) rfl
theorem wC_X7_leave : Cond.code yX7_leave cX7_leave 2 (some .int) ∈ gx_ws := gx_in (List.mem_of_getElem? (i := 1068) (by decide +kernel)) rfl
theorem wS_X7_leave : gx_St yX7_leave mX7_leave 1 := ⟨wC_X7_leave, wI_X7, ⟨by decide +kernel, by decide +kernel, by decide +kernel⟩, by decide⟩
theorem wM_X7_leave : Cond.instanceMethod yX7_leave ∈ gx_ws := gx_in (List.mem_of_getElem? (i := 1066) (by decide +kernel)) rfl
theorem wV_X7_leave : Cond.selects RX7 yX7_leave yX7_leave ∈ gx_ws := gx_in (List.mem_of_getElem? (i := 1067) (by decide +kernel)) rfl
theorem wC_X7_go : Cond.code yX7_go cX7_go 2 (some .int) ∈ gx_ws := gx_in (List.mem_of_getElem? (i := 1072) (by decide +kernel)) rfl
theorem wS_X7_go : gx_St yX7_go mX7_go 1 := ⟨wC_X7_go, wI_X7, ⟨by decide +kernel, by decide +kernel, by decide +kernel⟩, by decide⟩
theorem wM_X7_go : Cond.instanceMethod yX7_go ∈ gx_ws := gx_in (List.mem_of_getElem? (i := 1070) (by decide +kernel)) rfl
theorem wV_X7_go : Cond.selects RX7 yX7_go yX7_go ∈ gx_ws := gx_in (List.mem_of_getElem? (i := 1071) (by decide +kernel)) rfl
theorem wC_X7_call : Cond.code yX7_call cX7_call 2 (some .int) ∈ gx_ws := gx_in (List.mem_of_getElem? (i := 1076) (by decide +kernel)) rfl
theorem wS_X7_call : gx_St yX7_call mX7_call 1 := ⟨wC_X7_call, wI_X7, ⟨by decide +kernel, by decide +kernel, by decide +kernel⟩, by decide⟩
theorem wM_X7_call : Cond.instanceMethod yX7_call ∈ gx_ws := gx_in (List.mem_of_getElem? (i := 1074) (by decide +kernel)) rfl
theorem wV_X7_call : Cond.selects RX7 yX7_call yX7_call ∈ gx_ws := gx_in (List.mem_of_getElem? (i := 1075) (by decide +kernel)) rfl
theorem wC_X7_cut : Cond.code yX7_cut cX7_cut 2 (some .int) ∈ gx_ws := gx_in (List.mem_of_getElem? (i := 1080) (by decide +kernel)) rfl
theorem wS_X7_cut : gx_St yX7_cut mX7_cut 1 := ⟨wC_X7_cut, wI_X7, ⟨by decide +kernel, by decide +kernel, by decide +kernel⟩, by decide⟩
theorem wM_X7_cut : Cond.instanceMethod yX7_cut ∈ gx_ws := gx_in (List.mem_of_getElem? (i := 1078) (by decide +kernel)) rfl
theorem wV_X7_cut : Cond.selects RX7 yX7_cut yX7_cut ∈ gx_ws := gx_in (List.mem_of_getElem? (i := 1079) (by decide +kernel)) rfl
theorem wC_X7_days : Cond.code yX7_days cX7_days 3 (some .int) ∈ gx_ws := gx_in (List.mem_of_getElem? (i := 1084) (by decide +kernel)) rfl
theorem wS_X7_days : gx_St yX7_days mX7_days 1 := ⟨wC_X7_days, wI_X7, ⟨by decide +kernel, by decide +kernel, by decide +kernel⟩, by decide⟩
theorem wM_X7_days : Cond.instanceMethod yX7_days ∈ gx_ws := gx_in (List.mem_of_getElem? (i := 1082) (by decide +kernel)) rfl
theorem wV_X7_days : Cond.selects RX7 yX7_days yX7_days ∈ gx_ws := gx_in (List.mem_of_getElem? (i := 1083) (by decide +kernel)) rfl
theorem wC_X7_isFar : Cond.code yX7_isFar cX7_isFar 1 (some .boolean) ∈ gx_ws := gx_in (List.mem_of_getElem? (i := 1127) (by decide +kernel)) rfl
theorem wS_X7_isFar : gx_St yX7_isFar mX7_isFar 1 := ⟨wC_X7_isFar, wI_X7, ⟨by decide +kernel, by decide +kernel, by decide +kernel⟩, by decide⟩
theorem wT_X7_isFar : Cond.static yX7_isFar ∈ gx_ws := gx_in (List.mem_of_getElem? (i := 1126) (by decide +kernel)) rfl
theorem wC_X7_runs : Cond.code yX7_runs cX7_runs 6 (some .int) ∈ gx_ws := gx_in (List.mem_of_getElem? (i := 1124) (by decide +kernel)) rfl
theorem wS_X7_runs : gx_St yX7_runs mX7_runs 2 := ⟨wC_X7_runs, wI_X7, ⟨by decide +kernel, by decide +kernel, by decide +kernel⟩, by decide⟩
theorem wM_X7_runs : Cond.instanceMethod yX7_runs ∈ gx_ws := gx_in (List.mem_of_getElem? (i := 1122) (by decide +kernel)) rfl
theorem wV_X7_runs : Cond.selects RX7 yX7_runs yX7_runs ∈ gx_ws := gx_in (List.mem_of_getElem? (i := 1123) (by decide +kernel)) rfl
theorem wC_X7_ahead : Cond.code yX7_ahead cX7_ahead 4 (some .int) ∈ gx_ws := gx_in (List.mem_of_getElem? (i := 1133) (by decide +kernel)) rfl
theorem wS_X7_ahead : gx_St yX7_ahead mX7_ahead 3 := ⟨wC_X7_ahead, wI_X7, ⟨by decide +kernel, by decide +kernel, by decide +kernel⟩, by decide⟩
theorem wM_X7_ahead : Cond.instanceMethod yX7_ahead ∈ gx_ws := gx_in (List.mem_of_getElem? (i := 1131) (by decide +kernel)) rfl
theorem wV_X7_ahead : Cond.selects RX7 yX7_ahead yX7_ahead ∈ gx_ws := gx_in (List.mem_of_getElem? (i := 1132) (by decide +kernel)) rfl
theorem wC_X7_meets : Cond.code yX7_meets cX7_meets 3 (some .int) ∈ gx_ws := gx_in (List.mem_of_getElem? (i := 1137) (by decide +kernel)) rfl
theorem wS_X7_meets : gx_St yX7_meets mX7_meets 1 := ⟨wC_X7_meets, wI_X7, ⟨by decide +kernel, by decide +kernel, by decide +kernel⟩, by decide⟩
theorem wM_X7_meets : Cond.instanceMethod yX7_meets ∈ gx_ws := gx_in (List.mem_of_getElem? (i := 1135) (by decide +kernel)) rfl
theorem wV_X7_meets : Cond.selects RX7 yX7_meets yX7_meets ∈ gx_ws := gx_in (List.mem_of_getElem? (i := 1136) (by decide +kernel)) rfl
theorem wC_X7_startsJudging : Cond.code yX7_startsJudging cX7_startsJudging 2 none ∈ gx_ws := gx_in (List.mem_of_getElem? (i := 1145) (by decide +kernel)) rfl
theorem wS_X7_startsJudging : gx_St yX7_startsJudging mX7_startsJudging 1 := ⟨wC_X7_startsJudging, wI_X7, ⟨by decide +kernel, by decide +kernel, by decide +kernel⟩, by decide⟩
theorem wM_X7_startsJudging : Cond.instanceMethod yX7_startsJudging ∈ gx_ws := gx_in (List.mem_of_getElem? (i := 1144) (by decide +kernel)) rfl
theorem wV_X7_startsJudging : Cond.selects RX7 yX7_startsJudging yX7_startsJudging ∈ gx_ws := gx_in (List.mem_of_getElem? (i := 62) (by decide +kernel)) rfl
theorem wC_X7_judges : Cond.code yX7_judges cX7_judges 3 none ∈ gx_ws := gx_in (List.mem_of_getElem? (i := 1157) (by decide +kernel)) rfl
theorem wS_X7_judges : gx_St yX7_judges mX7_judges 2 := ⟨wC_X7_judges, wI_X7, ⟨by decide +kernel, by decide +kernel, by decide +kernel⟩, by decide⟩
theorem wM_X7_judges : Cond.instanceMethod yX7_judges ∈ gx_ws := gx_in (List.mem_of_getElem? (i := 1156) (by decide +kernel)) rfl
theorem wV_X7_judges : Cond.selects RX7 yX7_judges yX7_judges ∈ gx_ws := gx_in (List.mem_of_getElem? (i := 65) (by decide +kernel)) rfl
theorem wC_X7_judged : Cond.code yX7_judged cX7_judged 2 (some .int) ∈ gx_ws := gx_in (List.mem_of_getElem? (i := 1161) (by decide +kernel)) rfl
theorem wS_X7_judged : gx_St yX7_judged mX7_judged 1 := ⟨wC_X7_judged, wI_X7, ⟨by decide +kernel, by decide +kernel, by decide +kernel⟩, by decide⟩
theorem wM_X7_judged : Cond.instanceMethod yX7_judged ∈ gx_ws := gx_in (List.mem_of_getElem? (i := 1160) (by decide +kernel)) rfl
theorem wV_X7_judged : Cond.selects RX7 yX7_judged yX7_judged ∈ gx_ws := gx_in (List.mem_of_getElem? (i := 66) (by decide +kernel)) rfl
theorem wC_X7_place : Cond.code yX7_place cX7_place 5 (some .int) ∈ gx_ws := gx_in (List.mem_of_getElem? (i := 1141) (by decide +kernel)) rfl
theorem wS_X7_place : gx_St yX7_place mX7_place 3 := ⟨wC_X7_place, wI_X7, ⟨by decide +kernel, by decide +kernel, by decide +kernel⟩, by decide⟩
theorem wM_X7_place : Cond.instanceMethod yX7_place ∈ gx_ws := gx_in (List.mem_of_getElem? (i := 1139) (by decide +kernel)) rfl
theorem wV_X7_place : Cond.selects RX7 yX7_place yX7_place ∈ gx_ws := gx_in (List.mem_of_getElem? (i := 1140) (by decide +kernel)) rfl
theorem wC_X7_extra : Cond.code yX7_extra cX7_extra 4 (some .int) ∈ gx_ws := gx_in (List.mem_of_getElem? (i := 1165) (by decide +kernel)) rfl
theorem wS_X7_extra : gx_St yX7_extra mX7_extra 2 := ⟨wC_X7_extra, wI_X7, ⟨by decide +kernel, by decide +kernel, by decide +kernel⟩, by decide⟩
theorem wM_X7_extra : Cond.instanceMethod yX7_extra ∈ gx_ws := gx_in (List.mem_of_getElem? (i := 1163) (by decide +kernel)) rfl
theorem wV_X7_extra : Cond.selects RX7 yX7_extra yX7_extra ∈ gx_ws := gx_in (List.mem_of_getElem? (i := 1164) (by decide +kernel)) rfl
theorem wC_X7_swap : Cond.code yX7_swap cX7_swap 5 (some .int) ∈ gx_ws := gx_in (List.mem_of_getElem? (i := 1169) (by decide +kernel)) rfl
theorem wS_X7_swap : gx_St yX7_swap mX7_swap 2 := ⟨wC_X7_swap, wI_X7, ⟨by decide +kernel, by decide +kernel, by decide +kernel⟩, by decide⟩
theorem wM_X7_swap : Cond.instanceMethod yX7_swap ∈ gx_ws := gx_in (List.mem_of_getElem? (i := 1167) (by decide +kernel)) rfl
theorem wV_X7_swap : Cond.selects RX7 yX7_swap yX7_swap ∈ gx_ws := gx_in (List.mem_of_getElem? (i := 1168) (by decide +kernel)) rfl
theorem wC_X7_shun : Cond.code yX7_shun cX7_shun 5 (some .int) ∈ gx_ws := gx_in (List.mem_of_getElem? (i := 1173) (by decide +kernel)) rfl
theorem wS_X7_shun : gx_St yX7_shun mX7_shun 2 := ⟨wC_X7_shun, wI_X7, ⟨by decide +kernel, by decide +kernel, by decide +kernel⟩, by decide⟩
theorem wM_X7_shun : Cond.instanceMethod yX7_shun ∈ gx_ws := gx_in (List.mem_of_getElem? (i := 1171) (by decide +kernel)) rfl
theorem wV_X7_shun : Cond.selects RX7 yX7_shun yX7_shun ∈ gx_ws := gx_in (List.mem_of_getElem? (i := 1172) (by decide +kernel)) rfl
theorem wC_X7_need : Cond.code yX7_need cX7_need 4 (some .int) ∈ gx_ws := gx_in (List.mem_of_getElem? (i := 1177) (by decide +kernel)) rfl
theorem wS_X7_need : gx_St yX7_need mX7_need 2 := ⟨wC_X7_need, wI_X7, ⟨by decide +kernel, by decide +kernel, by decide +kernel⟩, by decide⟩
theorem wM_X7_need : Cond.instanceMethod yX7_need ∈ gx_ws := gx_in (List.mem_of_getElem? (i := 1175) (by decide +kernel)) rfl
theorem wV_X7_need : Cond.selects RX7 yX7_need yX7_need ∈ gx_ws := gx_in (List.mem_of_getElem? (i := 1176) (by decide +kernel)) rfl
theorem wC_X7_kind : Cond.code yX7_kind cX7_kind 5 (some .int) ∈ gx_ws := gx_in (List.mem_of_getElem? (i := 1181) (by decide +kernel)) rfl
theorem wS_X7_kind : gx_St yX7_kind mX7_kind 3 := ⟨wC_X7_kind, wI_X7, ⟨by decide +kernel, by decide +kernel, by decide +kernel⟩, by decide⟩
theorem wM_X7_kind : Cond.instanceMethod yX7_kind ∈ gx_ws := gx_in (List.mem_of_getElem? (i := 1179) (by decide +kernel)) rfl
theorem wV_X7_kind : Cond.selects RX7 yX7_kind yX7_kind ∈ gx_ws := gx_in (List.mem_of_getElem? (i := 1180) (by decide +kernel)) rfl
theorem wC_X7_drop : Cond.code yX7_drop cX7_drop 5 (some .int) ∈ gx_ws := gx_in (List.mem_of_getElem? (i := 1185) (by decide +kernel)) rfl
theorem wS_X7_drop : gx_St yX7_drop mX7_drop 3 := ⟨wC_X7_drop, wI_X7, ⟨by decide +kernel, by decide +kernel, by decide +kernel⟩, by decide⟩
theorem wM_X7_drop : Cond.instanceMethod yX7_drop ∈ gx_ws := gx_in (List.mem_of_getElem? (i := 1183) (by decide +kernel)) rfl
theorem wV_X7_drop : Cond.selects RX7 yX7_drop yX7_drop ∈ gx_ws := gx_in (List.mem_of_getElem? (i := 1184) (by decide +kernel)) rfl
theorem wC_X7_common : Cond.code yX7_common cX7_common 10 (some .long) ∈ gx_ws := gx_in (List.mem_of_getElem? (i := 1202) (by decide +kernel)) rfl
theorem wS_X7_common : gx_St yX7_common mX7_common 2 := ⟨wC_X7_common, wI_X7, ⟨by decide +kernel, by decide +kernel, by decide +kernel⟩, by decide⟩
theorem wT_X7_common : Cond.static yX7_common ∈ gx_ws := gx_in (List.mem_of_getElem? (i := 1201) (by decide +kernel)) rfl
theorem wC_X7_told : Cond.code yX7_told cX7_told 7 (some .long) ∈ gx_ws := gx_in (List.mem_of_getElem? (i := 1199) (by decide +kernel)) rfl
theorem wS_X7_told : gx_St yX7_told mX7_told 3 := ⟨wC_X7_told, wI_X7, ⟨by decide +kernel, by decide +kernel, by decide +kernel⟩, by decide⟩
theorem wT_X7_told : Cond.static yX7_told ∈ gx_ws := gx_in (List.mem_of_getElem? (i := 1198) (by decide +kernel)) rfl
theorem wC_X7_findOdds : Cond.code yX7_findOdds cX7_findOdds 9 none ∈ gx_ws := gx_in (List.mem_of_getElem? (i := 1196) (by decide +kernel)) rfl
theorem wS_X7_findOdds : gx_St yX7_findOdds mX7_findOdds 3 := ⟨wC_X7_findOdds, wI_X7, ⟨by decide +kernel, by decide +kernel, by decide +kernel⟩, by decide⟩
theorem wM_X7_findOdds : Cond.instanceMethod yX7_findOdds ∈ gx_ws := gx_in (List.mem_of_getElem? (i := 1195) (by decide +kernel)) rfl
theorem wV_X7_findOdds : Cond.selects RX7 yX7_findOdds yX7_findOdds ∈ gx_ws := gx_in (List.mem_of_getElem? (i := 67) (by decide +kernel)) rfl
theorem wC_X7_luck : Cond.code yX7_luck cX7_luck 5 (some .long) ∈ gx_ws := gx_in (List.mem_of_getElem? (i := 1189) (by decide +kernel)) rfl
theorem wS_X7_luck : gx_St yX7_luck mX7_luck 4 := ⟨wC_X7_luck, wI_X7, ⟨by decide +kernel, by decide +kernel, by decide +kernel⟩, by decide⟩
theorem wM_X7_luck : Cond.instanceMethod yX7_luck ∈ gx_ws := gx_in (List.mem_of_getElem? (i := 1187) (by decide +kernel)) rfl
theorem wV_X7_luck : Cond.selects RX7 yX7_luck yX7_luck ∈ gx_ws := gx_in (List.mem_of_getElem? (i := 1188) (by decide +kernel)) rfl
theorem wC_X7_mean : Cond.code yX7_mean cX7_mean 4 (some .long) ∈ gx_ws := gx_in (List.mem_of_getElem? (i := 1206) (by decide +kernel)) rfl
theorem wS_X7_mean : gx_St yX7_mean mX7_mean 3 := ⟨wC_X7_mean, wI_X7, ⟨by decide +kernel, by decide +kernel, by decide +kernel⟩, by decide⟩
theorem wM_X7_mean : Cond.instanceMethod yX7_mean ∈ gx_ws := gx_in (List.mem_of_getElem? (i := 1204) (by decide +kernel)) rfl
theorem wV_X7_mean : Cond.selects RX7 yX7_mean yX7_mean ∈ gx_ws := gx_in (List.mem_of_getElem? (i := 1205) (by decide +kernel)) rfl
theorem wC_X7_see : Cond.code yX7_see cX7_see 5 (some .int) ∈ gx_ws := gx_in (List.mem_of_getElem? (i := 1210) (by decide +kernel)) rfl
theorem wS_X7_see : gx_St yX7_see mX7_see 3 := ⟨wC_X7_see, wI_X7, ⟨by decide +kernel, by decide +kernel, by decide +kernel⟩, by decide⟩
theorem wM_X7_see : Cond.instanceMethod yX7_see ∈ gx_ws := gx_in (List.mem_of_getElem? (i := 1208) (by decide +kernel)) rfl
theorem wV_X7_see : Cond.selects RX7 yX7_see yX7_see ∈ gx_ws := gx_in (List.mem_of_getElem? (i := 1209) (by decide +kernel)) rfl
theorem wC_X7_forget : Cond.code yX7_forget cX7_forget 2 (some .int) ∈ gx_ws := gx_in (List.mem_of_getElem? (i := 1214) (by decide +kernel)) rfl
theorem wS_X7_forget : gx_St yX7_forget mX7_forget 1 := ⟨wC_X7_forget, wI_X7, ⟨by decide +kernel, by decide +kernel, by decide +kernel⟩, by decide⟩
theorem wM_X7_forget : Cond.instanceMethod yX7_forget ∈ gx_ws := gx_in (List.mem_of_getElem? (i := 1212) (by decide +kernel)) rfl
theorem wV_X7_forget : Cond.selects RX7 yX7_forget yX7_forget ∈ gx_ws := gx_in (List.mem_of_getElem? (i := 1213) (by decide +kernel)) rfl
theorem wC_X7_isSoWith : Cond.code yX7_isSoWith cX7_isSoWith 6 (some .boolean) ∈ gx_ws := gx_in (List.mem_of_getElem? (i := 1226) (by decide +kernel)) rfl
theorem wS_X7_isSoWith : gx_St yX7_isSoWith mX7_isSoWith 2 := ⟨wC_X7_isSoWith, wI_X7, ⟨by decide +kernel, by decide +kernel, by decide +kernel⟩, by decide⟩
theorem wM_X7_isSoWith : Cond.instanceMethod yX7_isSoWith ∈ gx_ws := gx_in (List.mem_of_getElem? (i := 1225) (by decide +kernel)) rfl
theorem wV_X7_isSoWith : Cond.selects RX7 yX7_isSoWith yX7_isSoWith ∈ gx_ws := gx_in (List.mem_of_getElem? (i := 69) (by decide +kernel)) rfl
theorem wC_X7_which : Cond.code yX7_which cX7_which 5 (some .int) ∈ gx_ws := gx_in (List.mem_of_getElem? (i := 1222) (by decide +kernel)) rfl
theorem wS_X7_which : gx_St yX7_which mX7_which 2 := ⟨wC_X7_which, wI_X7, ⟨by decide +kernel, by decide +kernel, by decide +kernel⟩, by decide⟩
theorem wM_X7_which : Cond.instanceMethod yX7_which ∈ gx_ws := gx_in (List.mem_of_getElem? (i := 1221) (by decide +kernel)) rfl
theorem wV_X7_which : Cond.selects RX7 yX7_which yX7_which ∈ gx_ws := gx_in (List.mem_of_getElem? (i := 68) (by decide +kernel)) rfl
theorem wC_X7_kinds : Cond.code yX7_kinds cX7_kinds 2 (some .int) ∈ gx_ws := gx_in (List.mem_of_getElem? (i := 1218) (by decide +kernel)) rfl
theorem wS_X7_kinds : gx_St yX7_kinds mX7_kinds 1 := ⟨wC_X7_kinds, wI_X7, ⟨by decide +kernel, by decide +kernel, by decide +kernel⟩, by decide⟩
theorem wM_X7_kinds : Cond.instanceMethod yX7_kinds ∈ gx_ws := gx_in (List.mem_of_getElem? (i := 1216) (by decide +kernel)) rfl
theorem wV_X7_kinds : Cond.selects RX7 yX7_kinds yX7_kinds ∈ gx_ws := gx_in (List.mem_of_getElem? (i := 1217) (by decide +kernel)) rfl
theorem wC_X7_doors : Cond.code yX7_doors cX7_doors 2 (some .int) ∈ gx_ws := gx_in (List.mem_of_getElem? (i := 1230) (by decide +kernel)) rfl
theorem wS_X7_doors : gx_St yX7_doors mX7_doors 1 := ⟨wC_X7_doors, wI_X7, ⟨by decide +kernel, by decide +kernel, by decide +kernel⟩, by decide⟩
theorem wM_X7_doors : Cond.instanceMethod yX7_doors ∈ gx_ws := gx_in (List.mem_of_getElem? (i := 1228) (by decide +kernel)) rfl
theorem wV_X7_doors : Cond.selects RX7 yX7_doors yX7_doors ∈ gx_ws := gx_in (List.mem_of_getElem? (i := 1229) (by decide +kernel)) rfl
theorem wC_X7_ask : Cond.code yX7_ask cX7_ask 11 (some .int) ∈ gx_ws := gx_in (List.mem_of_getElem? (i := 1234) (by decide +kernel)) rfl
theorem wS_X7_ask : gx_St yX7_ask mX7_ask 2 := ⟨wC_X7_ask, wI_X7, ⟨by decide +kernel, by decide +kernel, by decide +kernel⟩, by decide⟩
theorem wM_X7_ask : Cond.instanceMethod yX7_ask ∈ gx_ws := gx_in (List.mem_of_getElem? (i := 1232) (by decide +kernel)) rfl
theorem wV_X7_ask : Cond.selects RX7 yX7_ask yX7_ask ∈ gx_ws := gx_in (List.mem_of_getElem? (i := 1233) (by decide +kernel)) rfl
theorem wC_X7_drift : Cond.code yX7_drift cX7_drift 6 (some .int) ∈ gx_ws := gx_in (List.mem_of_getElem? (i := 1238) (by decide +kernel)) rfl
theorem wS_X7_drift : gx_St yX7_drift mX7_drift 3 := ⟨wC_X7_drift, wI_X7, ⟨by decide +kernel, by decide +kernel, by decide +kernel⟩, by decide⟩
theorem wM_X7_drift : Cond.instanceMethod yX7_drift ∈ gx_ws := gx_in (List.mem_of_getElem? (i := 1236) (by decide +kernel)) rfl
theorem wV_X7_drift : Cond.selects RX7 yX7_drift yX7_drift ∈ gx_ws := gx_in (List.mem_of_getElem? (i := 1237) (by decide +kernel)) rfl
theorem wC_X7_copies : Cond.code yX7_copies cX7_copies 4 none ∈ gx_ws := gx_in (List.mem_of_getElem? (i := 1247) (by decide +kernel)) rfl
theorem wS_X7_copies : gx_St yX7_copies mX7_copies 2 := ⟨wC_X7_copies, wI_X7, ⟨by decide +kernel, by decide +kernel, by decide +kernel⟩, by decide⟩
theorem wM_X7_copies : Cond.instanceMethod yX7_copies ∈ gx_ws := gx_in (List.mem_of_getElem? (i := 1246) (by decide +kernel)) rfl
theorem wV_X7_copies : Cond.selects RX7 yX7_copies yX7_copies ∈ gx_ws := gx_in (List.mem_of_getElem? (i := 70) (by decide +kernel)) rfl
theorem wC_X7_keep : Cond.code yX7_keep cX7_keep 3 (some .int) ∈ gx_ws := gx_in (List.mem_of_getElem? (i := 1243) (by decide +kernel)) rfl
theorem wS_X7_keep : gx_St yX7_keep mX7_keep 1 := ⟨wC_X7_keep, wI_X7, ⟨by decide +kernel, by decide +kernel, by decide +kernel⟩, by decide⟩
theorem wM_X7_keep : Cond.instanceMethod yX7_keep ∈ gx_ws := gx_in (List.mem_of_getElem? (i := 1241) (by decide +kernel)) rfl
theorem wV_X7_keep : Cond.selects RX7 yX7_keep yX7_keep ∈ gx_ws := gx_in (List.mem_of_getElem? (i := 1242) (by decide +kernel)) rfl
theorem wC_X7_back : Cond.code yX7_back cX7_back 2 (some .int) ∈ gx_ws := gx_in (List.mem_of_getElem? (i := 1251) (by decide +kernel)) rfl
theorem wS_X7_back : gx_St yX7_back mX7_back 1 := ⟨wC_X7_back, wI_X7, ⟨by decide +kernel, by decide +kernel, by decide +kernel⟩, by decide⟩
theorem wM_X7_back : Cond.instanceMethod yX7_back ∈ gx_ws := gx_in (List.mem_of_getElem? (i := 1249) (by decide +kernel)) rfl
theorem wV_X7_back : Cond.selects RX7 yX7_back yX7_back ∈ gx_ws := gx_in (List.mem_of_getElem? (i := 1250) (by decide +kernel)) rfl
theorem wC_X7_isSheet : Cond.code yX7_isSheet cX7_isSheet 2 (some .boolean) ∈ gx_ws := gx_in (List.mem_of_getElem? (i := 1258) (by decide +kernel)) rfl
theorem wS_X7_isSheet : gx_St yX7_isSheet mX7_isSheet 2 := ⟨wC_X7_isSheet, wI_X7, ⟨by decide +kernel, by decide +kernel, by decide +kernel⟩, by decide⟩
theorem wT_X7_isSheet : Cond.static yX7_isSheet ∈ gx_ws := gx_in (List.mem_of_getElem? (i := 1257) (by decide +kernel)) rfl
theorem wC_X7_sheet : Cond.code yX7_sheet cX7_sheet 5 (some .int) ∈ gx_ws := gx_in (List.mem_of_getElem? (i := 1255) (by decide +kernel)) rfl
theorem wS_X7_sheet : gx_St yX7_sheet mX7_sheet 3 := ⟨wC_X7_sheet, wI_X7, ⟨by decide +kernel, by decide +kernel, by decide +kernel⟩, by decide⟩
theorem wM_X7_sheet : Cond.instanceMethod yX7_sheet ∈ gx_ws := gx_in (List.mem_of_getElem? (i := 1253) (by decide +kernel)) rfl
theorem wV_X7_sheet : Cond.selects RX7 yX7_sheet yX7_sheet ∈ gx_ws := gx_in (List.mem_of_getElem? (i := 1254) (by decide +kernel)) rfl
theorem wC_X7_lay : Cond.code yX7_lay cX7_lay 4 (some .int) ∈ gx_ws := gx_in (List.mem_of_getElem? (i := 1263) (by decide +kernel)) rfl
theorem wS_X7_lay : gx_St yX7_lay mX7_lay 3 := ⟨wC_X7_lay, wI_X7, ⟨by decide +kernel, by decide +kernel, by decide +kernel⟩, by decide⟩
theorem wM_X7_lay : Cond.instanceMethod yX7_lay ∈ gx_ws := gx_in (List.mem_of_getElem? (i := 1261) (by decide +kernel)) rfl
theorem wV_X7_lay : Cond.selects RX7 yX7_lay yX7_lay ∈ gx_ws := gx_in (List.mem_of_getElem? (i := 1262) (by decide +kernel)) rfl
theorem wC_X7_read : Cond.code yX7_read cX7_read 11 (some .int) ∈ gx_ws := gx_in (List.mem_of_getElem? (i := 1267) (by decide +kernel)) rfl
theorem wS_X7_read : gx_St yX7_read mX7_read 4 := ⟨wC_X7_read, wI_X7, ⟨by decide +kernel, by decide +kernel, by decide +kernel⟩, by decide⟩
theorem wM_X7_read : Cond.instanceMethod yX7_read ∈ gx_ws := gx_in (List.mem_of_getElem? (i := 1265) (by decide +kernel)) rfl
theorem wV_X7_read : Cond.selects RX7 yX7_read yX7_read ∈ gx_ws := gx_in (List.mem_of_getElem? (i := 1266) (by decide +kernel)) rfl
theorem wC_X7_torn : Cond.code yX7_torn cX7_torn 1 (some .int) ∈ gx_ws := gx_in (List.mem_of_getElem? (i := 1272) (by decide +kernel)) rfl
theorem wS_X7_torn : gx_St yX7_torn mX7_torn 0 := ⟨wC_X7_torn, wI_X7, ⟨by decide +kernel, by decide +kernel, by decide +kernel⟩, by decide⟩
theorem wM_X7_torn : Cond.instanceMethod yX7_torn ∈ gx_ws := gx_in (List.mem_of_getElem? (i := 1270) (by decide +kernel)) rfl
theorem wV_X7_torn : Cond.selects RX7 yX7_torn yX7_torn ∈ gx_ws := gx_in (List.mem_of_getElem? (i := 1271) (by decide +kernel)) rfl
theorem wC_X7_count : Cond.code yX7_count cX7_count 5 (some .int) ∈ gx_ws := gx_in (List.mem_of_getElem? (i := 1276) (by decide +kernel)) rfl
theorem wS_X7_count : gx_St yX7_count mX7_count 1 := ⟨wC_X7_count, wI_X7, ⟨by decide +kernel, by decide +kernel, by decide +kernel⟩, by decide⟩
theorem wM_X7_count : Cond.instanceMethod yX7_count ∈ gx_ws := gx_in (List.mem_of_getElem? (i := 1274) (by decide +kernel)) rfl
theorem wV_X7_count : Cond.selects RX7 yX7_count yX7_count ∈ gx_ws := gx_in (List.mem_of_getElem? (i := 1275) (by decide +kernel)) rfl
theorem wC_J6_bitCount_0f7a4 : Cond.code yJ6_bitCount_0f7a4 cJ6_bitCount_0f7a4 1 (some .int) ∈ gx_ws := gx_in (List.mem_of_getElem? (i := 609) (by decide +kernel)) rfl
theorem wS_J6_bitCount_0f7a4 : gx_St yJ6_bitCount_0f7a4 mJ6_bitCount_0f7a4 1 := ⟨wC_J6_bitCount_0f7a4, wI_J6, ⟨by decide +kernel, by decide +kernel, by decide +kernel⟩, by decide⟩
theorem wT_J6_bitCount_0f7a4 : Cond.static yJ6_bitCount_0f7a4 ∈ gx_ws := gx_in (List.mem_of_getElem? (i := 608) (by decide +kernel)) rfl
theorem wC_J9_max_7cf53 : Cond.code yJ9_max_7cf53 cJ9_max_7cf53 2 (some .int) ∈ gx_ws := gx_in (List.mem_of_getElem? (i := 602) (by decide +kernel)) rfl
theorem wS_J9_max_7cf53 : gx_St yJ9_max_7cf53 mJ9_max_7cf53 2 := ⟨wC_J9_max_7cf53, wI_J9, ⟨by decide +kernel, by decide +kernel, by decide +kernel⟩, by decide⟩
theorem wT_J9_max_7cf53 : Cond.static yJ9_max_7cf53 ∈ gx_ws := gx_in (List.mem_of_getElem? (i := 601) (by decide +kernel)) rfl
theorem wC_J9_max_f86c9 : Cond.code yJ9_max_f86c9 cJ9_max_f86c9 4 (some .long) ∈ gx_ws := gx_in (List.mem_of_getElem? (i := 672) (by decide +kernel)) rfl
theorem wS_J9_max_f86c9 : gx_St yJ9_max_f86c9 mJ9_max_f86c9 2 := ⟨wC_J9_max_f86c9, wI_J9, ⟨by decide +kernel, by decide +kernel, by decide +kernel⟩, by decide⟩
theorem wT_J9_max_f86c9 : Cond.static yJ9_max_f86c9 ∈ gx_ws := gx_in (List.mem_of_getElem? (i := 671) (by decide +kernel)) rfl
theorem wC_J9_min_7cf53 : Cond.code yJ9_min_7cf53 cJ9_min_7cf53 2 (some .int) ∈ gx_ws := gx_in (List.mem_of_getElem? (i := 574) (by decide +kernel)) rfl
theorem wS_J9_min_7cf53 : gx_St yJ9_min_7cf53 mJ9_min_7cf53 2 := ⟨wC_J9_min_7cf53, wI_J9, ⟨by decide +kernel, by decide +kernel, by decide +kernel⟩, by decide⟩
theorem wT_J9_min_7cf53 : Cond.static yJ9_min_7cf53 ∈ gx_ws := gx_in (List.mem_of_getElem? (i := 573) (by decide +kernel)) rfl
theorem wC_J0_length_8abf5 : Cond.code yJ0_length_8abf5 cJ0_length_8abf5 1 (some .int) ∈ gx_ws := gx_in (List.mem_of_getElem? (i := 381) (by decide +kernel)) rfl
theorem wS_J0_length_8abf5 : gx_St yJ0_length_8abf5 mJ0_length_8abf5 0 := ⟨wC_J0_length_8abf5, wI_J0, ⟨by decide +kernel, by decide +kernel, by decide +kernel⟩, by decide⟩
theorem wM_J0_length_8abf5 : Cond.instanceMethod yJ0_length_8abf5 ∈ gx_ws := gx_in (List.mem_of_getElem? (i := 379) (by decide +kernel)) rfl
theorem wV_J0_length_8abf5 : Cond.selects RJ0 yJ0_length_8abf5 yJ0_length_8abf5 ∈ gx_ws := gx_in (List.mem_of_getElem? (i := 380) (by decide +kernel)) rfl
theorem wC_J0_charAt_5068e : Cond.code yJ0_charAt_5068e cJ0_charAt_5068e 2 (some .char) ∈ gx_ws := gx_in (List.mem_of_getElem? (i := 391) (by decide +kernel)) rfl
theorem wS_J0_charAt_5068e : gx_St yJ0_charAt_5068e mJ0_charAt_5068e 1 := ⟨wC_J0_charAt_5068e, wI_J0, ⟨by decide +kernel, by decide +kernel, by decide +kernel⟩, by decide⟩
theorem wM_J0_charAt_5068e : Cond.instanceMethod yJ0_charAt_5068e ∈ gx_ws := gx_in (List.mem_of_getElem? (i := 389) (by decide +kernel)) rfl
theorem wV_J0_charAt_5068e : Cond.selects RJ0 yJ0_charAt_5068e yJ0_charAt_5068e ∈ gx_ws := gx_in (List.mem_of_getElem? (i := 390) (by decide +kernel)) rfl
theorem wC_J0_coder_7d493 : Cond.code yJ0_coder_7d493 cJ0_coder_7d493 1 (some .byte) ∈ gx_ws := gx_in (List.mem_of_getElem? (i := 385) (by decide +kernel)) rfl
theorem wS_J0_coder_7d493 : gx_St yJ0_coder_7d493 mJ0_coder_7d493 0 := ⟨wC_J0_coder_7d493, wI_J0, ⟨by decide +kernel, by decide +kernel, by decide +kernel⟩, by decide⟩
theorem wM_J0_coder_7d493 : Cond.instanceMethod yJ0_coder_7d493 ∈ gx_ws := gx_in (List.mem_of_getElem? (i := 383) (by decide +kernel)) rfl
theorem wV_J0_coder_7d493 : Cond.selects RJ0 yJ0_coder_7d493 yJ0_coder_7d493 ∈ gx_ws := gx_in (List.mem_of_getElem? (i := 384) (by decide +kernel)) rfl
theorem wC_J0_isLatin1_aae02 : Cond.code yJ0_isLatin1_aae02 cJ0_isLatin1_aae02 1 (some .boolean) ∈ gx_ws := gx_in (List.mem_of_getElem? (i := 395) (by decide +kernel)) rfl
theorem wS_J0_isLatin1_aae02 : gx_St yJ0_isLatin1_aae02 mJ0_isLatin1_aae02 0 := ⟨wC_J0_isLatin1_aae02, wI_J0, ⟨by decide +kernel, by decide +kernel, by decide +kernel⟩, by decide⟩
theorem wM_J0_isLatin1_aae02 : Cond.instanceMethod yJ0_isLatin1_aae02 ∈ gx_ws := gx_in (List.mem_of_getElem? (i := 393) (by decide +kernel)) rfl
theorem wV_J0_isLatin1_aae02 : Cond.selects RJ0 yJ0_isLatin1_aae02 yJ0_isLatin1_aae02 ∈ gx_ws := gx_in (List.mem_of_getElem? (i := 394) (by decide +kernel)) rfl
theorem wC_J0_checkIndex_df160 : Cond.code yJ0_checkIndex_df160 cJ0_checkIndex_df160 2 none ∈ gx_ws := gx_in (List.mem_of_getElem? (i := 401) (by decide +kernel)) rfl
theorem wS_J0_checkIndex_df160 : gx_St yJ0_checkIndex_df160 mJ0_checkIndex_df160 2 := ⟨wC_J0_checkIndex_df160, wI_J0, ⟨by decide +kernel, by decide +kernel, by decide +kernel⟩, by decide⟩
theorem wT_J0_checkIndex_df160 : Cond.static yJ0_checkIndex_df160 ∈ gx_ws := gx_in (List.mem_of_getElem? (i := 400) (by decide +kernel)) rfl
theorem wC_J1_charAt_3b067 : Cond.code yJ1_charAt_3b067 cJ1_charAt_3b067 2 (some .char) ∈ gx_ws := gx_in (List.mem_of_getElem? (i := 398) (by decide +kernel)) rfl
theorem wS_J1_charAt_3b067 : gx_St yJ1_charAt_3b067 mJ1_charAt_3b067 2 := ⟨wC_J1_charAt_3b067, wI_J1, ⟨by decide +kernel, by decide +kernel, by decide +kernel⟩, by decide⟩
theorem wT_J1_charAt_3b067 : Cond.static yJ1_charAt_3b067 ∈ gx_ws := gx_in (List.mem_of_getElem? (i := 397) (by decide +kernel)) rfl
theorem wC_J2_getChar_3b067 : Cond.code yJ2_getChar_3b067 cJ2_getChar_3b067 2 (some .char) ∈ gx_ws := gx_in (List.mem_of_getElem? (i := 419) (by decide +kernel)) rfl
theorem wS_J2_getChar_3b067 : gx_St yJ2_getChar_3b067 mJ2_getChar_3b067 2 := ⟨wC_J2_getChar_3b067, wI_J2, ⟨by decide +kernel, by decide +kernel, by decide +kernel⟩, by decide⟩
theorem wT_J2_getChar_3b067 : Cond.static yJ2_getChar_3b067 ∈ gx_ws := gx_in (List.mem_of_getElem? (i := 418) (by decide +kernel)) rfl
theorem wC_J2_length_9d52b : Cond.code yJ2_length_9d52b cJ2_length_9d52b 1 (some .int) ∈ gx_ws := gx_in (List.mem_of_getElem? (i := 415) (by decide +kernel)) rfl
theorem wS_J2_length_9d52b : gx_St yJ2_length_9d52b mJ2_length_9d52b 1 := ⟨wC_J2_length_9d52b, wI_J2, ⟨by decide +kernel, by decide +kernel, by decide +kernel⟩, by decide⟩
theorem wT_J2_length_9d52b : Cond.static yJ2_length_9d52b ∈ gx_ws := gx_in (List.mem_of_getElem? (i := 414) (by decide +kernel)) rfl
theorem wC_J2_charAt_3b067 : Cond.code yJ2_charAt_3b067 cJ2_charAt_3b067 2 (some .char) ∈ gx_ws := gx_in (List.mem_of_getElem? (i := 409) (by decide +kernel)) rfl
theorem wS_J2_charAt_3b067 : gx_St yJ2_charAt_3b067 mJ2_charAt_3b067 2 := ⟨wC_J2_charAt_3b067, wI_J2, ⟨by decide +kernel, by decide +kernel, by decide +kernel⟩, by decide⟩
theorem wT_J2_charAt_3b067 : Cond.static yJ2_charAt_3b067 ∈ gx_ws := gx_in (List.mem_of_getElem? (i := 408) (by decide +kernel)) rfl
theorem wC_J2_checkIndex_2214a : Cond.code yJ2_checkIndex_2214a cJ2_checkIndex_2214a 2 none ∈ gx_ws := gx_in (List.mem_of_getElem? (i := 412) (by decide +kernel)) rfl
theorem wS_J2_checkIndex_2214a : gx_St yJ2_checkIndex_2214a mJ2_checkIndex_2214a 2 := ⟨wC_J2_checkIndex_2214a, wI_J2, ⟨by decide +kernel, by decide +kernel, by decide +kernel⟩, by decide⟩
theorem wT_J2_checkIndex_2214a : Cond.static yJ2_checkIndex_2214a ∈ gx_ws := gx_in (List.mem_of_getElem? (i := 411) (by decide +kernel)) rfl
theorem wC_J7_fill_53178 : Cond.code yJ7_fill_53178 cJ7_fill_53178 4 none ∈ gx_ws := gx_in (List.mem_of_getElem? (i := 333) (by decide +kernel)) rfl
theorem wS_J7_fill_53178 : gx_St yJ7_fill_53178 mJ7_fill_53178 2 := ⟨wC_J7_fill_53178, wI_J7, ⟨by decide +kernel, by decide +kernel, by decide +kernel⟩, by decide⟩
theorem wT_J7_fill_53178 : Cond.static yJ7_fill_53178 ∈ gx_ws := gx_in (List.mem_of_getElem? (i := 332) (by decide +kernel)) rfl
theorem wC_J3_checkIndex_8e157 : Cond.code yJ3_checkIndex_8e157 cJ3_checkIndex_8e157 3 (some .int) ∈ gx_ws := gx_in (List.mem_of_getElem? (i := 406) (by decide +kernel)) rfl
theorem wS_J3_checkIndex_8e157 : gx_St yJ3_checkIndex_8e157 mJ3_checkIndex_8e157 3 := ⟨wC_J3_checkIndex_8e157, wI_J3, ⟨by decide +kernel, by decide +kernel, by decide +kernel⟩, by decide⟩
theorem wT_J3_checkIndex_8e157 : Cond.static yJ3_checkIndex_8e157 ∈ gx_ws := gx_in (List.mem_of_getElem? (i := 405) (by decide +kernel)) rfl
