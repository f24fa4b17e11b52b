section
-- ===== PART A: goes FIRST, ahead of the names: the tables' words, and 'selects' of the private methods out of them =====
/-- a private method of a class that the tables say can be made, by its rows of tables_1 -/
def lw_okq (q : MethodName × Nat) : Prop := (q.1.cls ≠ "java/lang/invoke/MethodHandle" ∧ q.1.cls ≠ "java/lang/invoke/VarHandle") ∧ Cond.instantiable q.1.cls q.2 ∈ tables_1 ∧ Cond.privateMethod q.1 ∈ tables_1 ∧ Cond.instanceMethod q.1 ∈ tables_1
theorem lw_p0 : lw_okq (⟨"GloveAbout$TextReader", "readsToken", "()Z"⟩, 10) := ⟨⟨by decide +kernel, by decide +kernel⟩, List.mem_of_getElem? (i := 124) (by decide +kernel), List.mem_of_getElem? (i := 263) (by decide +kernel), List.mem_of_getElem? (i := 264) (by decide +kernel)⟩
theorem lw_p1 : lw_okq (⟨"GloveAbout$TextReader", "readsWord", "()Z"⟩, 10) := ⟨⟨by decide +kernel, by decide +kernel⟩, List.mem_of_getElem? (i := 124) (by decide +kernel), List.mem_of_getElem? (i := 270) (by decide +kernel), List.mem_of_getElem? (i := 271) (by decide +kernel)⟩
theorem lw_p2 : lw_okq (⟨"GloveAbout$TextReader", "readsNumber", "()Z"⟩, 10) := ⟨⟨by decide +kernel, by decide +kernel⟩, List.mem_of_getElem? (i := 124) (by decide +kernel), List.mem_of_getElem? (i := 277) (by decide +kernel), List.mem_of_getElem? (i := 278) (by decide +kernel)⟩
theorem lw_p3 : lw_okq (⟨"GloveAbout$TextReader", "refuses", "(I)Z"⟩, 10) := ⟨⟨by decide +kernel, by decide +kernel⟩, List.mem_of_getElem? (i := 124) (by decide +kernel), List.mem_of_getElem? (i := 281) (by decide +kernel), List.mem_of_getElem? (i := 282) (by decide +kernel)⟩
theorem lw_p4 : lw_okq (⟨"GloveAbout$TextReader", "takesLine", "()Z"⟩, 10) := ⟨⟨by decide +kernel, by decide +kernel⟩, List.mem_of_getElem? (i := 124) (by decide +kernel), List.mem_of_getElem? (i := 285) (by decide +kernel), List.mem_of_getElem? (i := 286) (by decide +kernel)⟩
theorem lw_p5 : lw_okq (⟨"GloveAbout$TextReader", "wordRead", "()I"⟩, 10) := ⟨⟨by decide +kernel, by decide +kernel⟩, List.mem_of_getElem? (i := 124) (by decide +kernel), List.mem_of_getElem? (i := 289) (by decide +kernel), List.mem_of_getElem? (i := 290) (by decide +kernel)⟩
theorem lw_p6 : lw_okq (⟨"GloveAbout$TextReader", "isSpelled", "(Ljava/lang/String;)Z"⟩, 10) := ⟨⟨by decide +kernel, by decide +kernel⟩, List.mem_of_getElem? (i := 124) (by decide +kernel), List.mem_of_getElem? (i := 303) (by decide +kernel), List.mem_of_getElem? (i := 304) (by decide +kernel)⟩
theorem lw_p7 : lw_okq (⟨"GloveAbout$TextReader", "takesGlove", "(I)Z"⟩, 10) := ⟨⟨by decide +kernel, by decide +kernel⟩, List.mem_of_getElem? (i := 124) (by decide +kernel), List.mem_of_getElem? (i := 355) (by decide +kernel), List.mem_of_getElem? (i := 356) (by decide +kernel)⟩
theorem lw_p8 : lw_okq (⟨"GloveAbout$TextReader", "takesNumber", "(I)Z"⟩, 10) := ⟨⟨by decide +kernel, by decide +kernel⟩, List.mem_of_getElem? (i := 124) (by decide +kernel), List.mem_of_getElem? (i := 359) (by decide +kernel), List.mem_of_getElem? (i := 360) (by decide +kernel)⟩
theorem lw_p9 : lw_okq (⟨"GloveAbout$TextReader", "takesMark", "()Z"⟩, 10) := ⟨⟨by decide +kernel, by decide +kernel⟩, List.mem_of_getElem? (i := 124) (by decide +kernel), List.mem_of_getElem? (i := 363) (by decide +kernel), List.mem_of_getElem? (i := 364) (by decide +kernel)⟩
theorem lw_p10 : lw_okq (⟨"GloveAbout$TextReader", "takesRow", "([II)Z"⟩, 10) := ⟨⟨by decide +kernel, by decide +kernel⟩, List.mem_of_getElem? (i := 124) (by decide +kernel), List.mem_of_getElem? (i := 367) (by decide +kernel), List.mem_of_getElem? (i := 368) (by decide +kernel)⟩
theorem lw_p11 : lw_okq (⟨"GloveAbout$TextReader", "takesRoute", "()Z"⟩, 10) := ⟨⟨by decide +kernel, by decide +kernel⟩, List.mem_of_getElem? (i := 124) (by decide +kernel), List.mem_of_getElem? (i := 371) (by decide +kernel), List.mem_of_getElem? (i := 372) (by decide +kernel)⟩
theorem lw_p12 : lw_okq (⟨"GloveAbout$TextReader", "takesMan", "()Z"⟩, 10) := ⟨⟨by decide +kernel, by decide +kernel⟩, List.mem_of_getElem? (i := 124) (by decide +kernel), List.mem_of_getElem? (i := 375) (by decide +kernel), List.mem_of_getElem? (i := 376) (by decide +kernel)⟩
theorem lw_p13 : lw_okq (⟨"GloveAbout", "isGlove", "(I)Z"⟩, 10) := ⟨⟨by decide +kernel, by decide +kernel⟩, List.mem_of_getElem? (i := 18) (by decide +kernel), List.mem_of_getElem? (i := 410) (by decide +kernel), List.mem_of_getElem? (i := 411) (by decide +kernel)⟩
theorem lw_p14 : lw_okq (⟨"GloveAbout", "isCall", "(I)Z"⟩, 10) := ⟨⟨by decide +kernel, by decide +kernel⟩, List.mem_of_getElem? (i := 18) (by decide +kernel), List.mem_of_getElem? (i := 448) (by decide +kernel), List.mem_of_getElem? (i := 449) (by decide +kernel)⟩
theorem lw_p15 : lw_okq (⟨"GloveAbout", "refusalOf", "(III)I"⟩, 10) := ⟨⟨by decide +kernel, by decide +kernel⟩, List.mem_of_getElem? (i := 18) (by decide +kernel), List.mem_of_getElem? (i := 456) (by decide +kernel), List.mem_of_getElem? (i := 457) (by decide +kernel)⟩
def lw_privs_1 : List (MethodName × Nat) := [(⟨"GloveAbout$TextReader", "readsToken", "()Z"⟩, 10), (⟨"GloveAbout$TextReader", "readsWord", "()Z"⟩, 10), (⟨"GloveAbout$TextReader", "readsNumber", "()Z"⟩, 10), (⟨"GloveAbout$TextReader", "refuses", "(I)Z"⟩, 10), (⟨"GloveAbout$TextReader", "takesLine", "()Z"⟩, 10), (⟨"GloveAbout$TextReader", "wordRead", "()I"⟩, 10), (⟨"GloveAbout$TextReader", "isSpelled", "(Ljava/lang/String;)Z"⟩, 10), (⟨"GloveAbout$TextReader", "takesGlove", "(I)Z"⟩, 10), (⟨"GloveAbout$TextReader", "takesNumber", "(I)Z"⟩, 10), (⟨"GloveAbout$TextReader", "takesMark", "()Z"⟩, 10), (⟨"GloveAbout$TextReader", "takesRow", "([II)Z"⟩, 10), (⟨"GloveAbout$TextReader", "takesRoute", "()Z"⟩, 10), (⟨"GloveAbout$TextReader", "takesMan", "()Z"⟩, 10), (⟨"GloveAbout", "isGlove", "(I)Z"⟩, 10), (⟨"GloveAbout", "isCall", "(I)Z"⟩, 10), (⟨"GloveAbout", "refusalOf", "(III)I"⟩, 10)]
theorem lw_r1 : ∀ q ∈ lw_privs_1, lw_okq q := List.forall_mem_cons.mpr ⟨lw_p0, List.forall_mem_cons.mpr ⟨lw_p1, List.forall_mem_cons.mpr ⟨lw_p2, List.forall_mem_cons.mpr ⟨lw_p3, List.forall_mem_cons.mpr ⟨lw_p4, List.forall_mem_cons.mpr ⟨lw_p5, List.forall_mem_cons.mpr ⟨lw_p6, List.forall_mem_cons.mpr ⟨lw_p7, List.forall_mem_cons.mpr ⟨lw_p8, List.forall_mem_cons.mpr ⟨lw_p9, List.forall_mem_cons.mpr ⟨lw_p10, List.forall_mem_cons.mpr ⟨lw_p11, List.forall_mem_cons.mpr ⟨lw_p12, List.forall_mem_cons.mpr ⟨lw_p13, List.forall_mem_cons.mpr ⟨lw_p14, List.forall_mem_cons.mpr ⟨lw_p15, fun _ h => absurd h List.not_mem_nil⟩⟩⟩⟩⟩⟩⟩⟩⟩⟩⟩⟩⟩⟩⟩⟩
theorem lw_p16 : lw_okq (⟨"GloveAbout$World", "passDayOfGlove", "(I)V"⟩, 11) := ⟨⟨by decide +kernel, by decide +kernel⟩, List.mem_of_getElem? (i := 26) (by decide +kernel), List.mem_of_getElem? (i := 503) (by decide +kernel), List.mem_of_getElem? (i := 504) (by decide +kernel)⟩
theorem lw_p17 : lw_okq (⟨"GloveAbout", "firstPairing", "(II)I"⟩, 10) := ⟨⟨by decide +kernel, by decide +kernel⟩, List.mem_of_getElem? (i := 18) (by decide +kernel), List.mem_of_getElem? (i := 513) (by decide +kernel), List.mem_of_getElem? (i := 514) (by decide +kernel)⟩
theorem lw_p18 : lw_okq (⟨"GloveAbout", "bestDoorOfCall", "(III)I"⟩, 10) := ⟨⟨by decide +kernel, by decide +kernel⟩, List.mem_of_getElem? (i := 18) (by decide +kernel), List.mem_of_getElem? (i := 529) (by decide +kernel), List.mem_of_getElem? (i := 530) (by decide +kernel)⟩
theorem lw_p19 : lw_okq (⟨"GloveAbout", "nameBehind", "(I)I"⟩, 10) := ⟨⟨by decide +kernel, by decide +kernel⟩, List.mem_of_getElem? (i := 18) (by decide +kernel), List.mem_of_getElem? (i := 554) (by decide +kernel), List.mem_of_getElem? (i := 555) (by decide +kernel)⟩
theorem lw_p20 : lw_okq (⟨"GloveAbout", "nameWithSwap", "(III)I"⟩, 10) := ⟨⟨by decide +kernel, by decide +kernel⟩, List.mem_of_getElem? (i := 18) (by decide +kernel), List.mem_of_getElem? (i := 558) (by decide +kernel), List.mem_of_getElem? (i := 559) (by decide +kernel)⟩
theorem lw_p21 : lw_okq (⟨"GloveAbout", "mostNamedPart", "(IIII)I"⟩, 10) := ⟨⟨by decide +kernel, by decide +kernel⟩, List.mem_of_getElem? (i := 18) (by decide +kernel), List.mem_of_getElem? (i := 578) (by decide +kernel), List.mem_of_getElem? (i := 579) (by decide +kernel)⟩
theorem lw_p22 : lw_okq (⟨"GloveAbout", "fractionByOdds", "(IIII)J"⟩, 10) := ⟨⟨by decide +kernel, by decide +kernel⟩, List.mem_of_getElem? (i := 18) (by decide +kernel), List.mem_of_getElem? (i := 591) (by decide +kernel), List.mem_of_getElem? (i := 592) (by decide +kernel)⟩
theorem lw_p23 : lw_okq (⟨"GloveAbout", "partsAsSeen", "(II)I"⟩, 10) := ⟨⟨by decide +kernel, by decide +kernel⟩, List.mem_of_getElem? (i := 18) (by decide +kernel), List.mem_of_getElem? (i := 626) (by decide +kernel), List.mem_of_getElem? (i := 627) (by decide +kernel)⟩
theorem lw_p24 : lw_okq (⟨"GloveAbout", "trialGoesAsSeen", "()Z"⟩, 10) := ⟨⟨by decide +kernel, by decide +kernel⟩, List.mem_of_getElem? (i := 18) (by decide +kernel), List.mem_of_getElem? (i := 630) (by decide +kernel), List.mem_of_getElem? (i := 631) (by decide +kernel)⟩
theorem lw_p25 : lw_okq (⟨"GloveAbout", "mostAtOneDoor", "(II)I"⟩, 10) := ⟨⟨by decide +kernel, by decide +kernel⟩, List.mem_of_getElem? (i := 18) (by decide +kernel), List.mem_of_getElem? (i := 652) (by decide +kernel), List.mem_of_getElem? (i := 653) (by decide +kernel)⟩
theorem lw_p26 : lw_okq (⟨"GloveAbout", "imagesKept", "()I"⟩, 10) := ⟨⟨by decide +kernel, by decide +kernel⟩, List.mem_of_getElem? (i := 18) (by decide +kernel), List.mem_of_getElem? (i := 720) (by decide +kernel), List.mem_of_getElem? (i := 721) (by decide +kernel)⟩
theorem lw_p27 : lw_okq (⟨"GloveAboutModel", "firstDraft", "()V"⟩, 30) := ⟨⟨by decide +kernel, by decide +kernel⟩, List.mem_of_getElem? (i := 728) (by decide +kernel), List.mem_of_getElem? (i := 734) (by decide +kernel), List.mem_of_getElem? (i := 735) (by decide +kernel)⟩
theorem lw_p28 : lw_okq (⟨"GloveAboutModel", "keepDraft", "()V"⟩, 30) := ⟨⟨by decide +kernel, by decide +kernel⟩, List.mem_of_getElem? (i := 728) (by decide +kernel), List.mem_of_getElem? (i := 738) (by decide +kernel), List.mem_of_getElem? (i := 739) (by decide +kernel)⟩
theorem lw_p29 : lw_okq (⟨"GloveAboutModel", "reads", "()V"⟩, 30) := ⟨⟨by decide +kernel, by decide +kernel⟩, List.mem_of_getElem? (i := 728) (by decide +kernel), List.mem_of_getElem? (i := 850) (by decide +kernel), List.mem_of_getElem? (i := 851) (by decide +kernel)⟩
theorem lw_p30 : lw_okq (⟨"GloveAboutModel", "byteAt", "(I)I"⟩, 30) := ⟨⟨by decide +kernel, by decide +kernel⟩, List.mem_of_getElem? (i := 728) (by decide +kernel), List.mem_of_getElem? (i := 854) (by decide +kernel), List.mem_of_getElem? (i := 855) (by decide +kernel)⟩
theorem lw_p31 : lw_okq (⟨"GloveAboutModel", "requires", "(ZI)V"⟩, 30) := ⟨⟨by decide +kernel, by decide +kernel⟩, List.mem_of_getElem? (i := 728) (by decide +kernel), List.mem_of_getElem? (i := 862) (by decide +kernel), List.mem_of_getElem? (i := 863) (by decide +kernel)⟩
def lw_privs_2 : List (MethodName × Nat) := [(⟨"GloveAbout$World", "passDayOfGlove", "(I)V"⟩, 11), (⟨"GloveAbout", "firstPairing", "(II)I"⟩, 10), (⟨"GloveAbout", "bestDoorOfCall", "(III)I"⟩, 10), (⟨"GloveAbout", "nameBehind", "(I)I"⟩, 10), (⟨"GloveAbout", "nameWithSwap", "(III)I"⟩, 10), (⟨"GloveAbout", "mostNamedPart", "(IIII)I"⟩, 10), (⟨"GloveAbout", "fractionByOdds", "(IIII)J"⟩, 10), (⟨"GloveAbout", "partsAsSeen", "(II)I"⟩, 10), (⟨"GloveAbout", "trialGoesAsSeen", "()Z"⟩, 10), (⟨"GloveAbout", "mostAtOneDoor", "(II)I"⟩, 10), (⟨"GloveAbout", "imagesKept", "()I"⟩, 10), (⟨"GloveAboutModel", "firstDraft", "()V"⟩, 30), (⟨"GloveAboutModel", "keepDraft", "()V"⟩, 30), (⟨"GloveAboutModel", "reads", "()V"⟩, 30), (⟨"GloveAboutModel", "byteAt", "(I)I"⟩, 30), (⟨"GloveAboutModel", "requires", "(ZI)V"⟩, 30)]
theorem lw_r2 : ∀ q ∈ lw_privs_2, lw_okq q := List.forall_mem_cons.mpr ⟨lw_p16, List.forall_mem_cons.mpr ⟨lw_p17, List.forall_mem_cons.mpr ⟨lw_p18, List.forall_mem_cons.mpr ⟨lw_p19, List.forall_mem_cons.mpr ⟨lw_p20, List.forall_mem_cons.mpr ⟨lw_p21, List.forall_mem_cons.mpr ⟨lw_p22, List.forall_mem_cons.mpr ⟨lw_p23, List.forall_mem_cons.mpr ⟨lw_p24, List.forall_mem_cons.mpr ⟨lw_p25, List.forall_mem_cons.mpr ⟨lw_p26, List.forall_mem_cons.mpr ⟨lw_p27, List.forall_mem_cons.mpr ⟨lw_p28, List.forall_mem_cons.mpr ⟨lw_p29, List.forall_mem_cons.mpr ⟨lw_p30, List.forall_mem_cons.mpr ⟨lw_p31, fun _ h => absurd h List.not_mem_nil⟩⟩⟩⟩⟩⟩⟩⟩⟩⟩⟩⟩⟩⟩⟩⟩
theorem lw_p32 : lw_okq (⟨"GloveAboutModel", "readLine", "()V"⟩, 30) := ⟨⟨by decide +kernel, by decide +kernel⟩, List.mem_of_getElem? (i := 728) (by decide +kernel), List.mem_of_getElem? (i := 866) (by decide +kernel), List.mem_of_getElem? (i := 867) (by decide +kernel)⟩
theorem lw_p33 : lw_okq (⟨"GloveAboutModel", "lineNow", "()I"⟩, 30) := ⟨⟨by decide +kernel, by decide +kernel⟩, List.mem_of_getElem? (i := 728) (by decide +kernel), List.mem_of_getElem? (i := 870) (by decide +kernel), List.mem_of_getElem? (i := 871) (by decide +kernel)⟩
theorem lw_p34 : lw_okq (⟨"GloveAboutModel", "is", "(IIII)Z"⟩, 30) := ⟨⟨by decide +kernel, by decide +kernel⟩, List.mem_of_getElem? (i := 728) (by decide +kernel), List.mem_of_getElem? (i := 874) (by decide +kernel), List.mem_of_getElem? (i := 875) (by decide +kernel)⟩
theorem lw_p35 : lw_okq (⟨"GloveAboutModel", "endsIn", "(III)Z"⟩, 30) := ⟨⟨by decide +kernel, by decide +kernel⟩, List.mem_of_getElem? (i := 728) (by decide +kernel), List.mem_of_getElem? (i := 878) (by decide +kernel), List.mem_of_getElem? (i := 879) (by decide +kernel)⟩
theorem lw_p36 : lw_okq (⟨"GloveAboutModel", "wasTold", "(I)Z"⟩, 30) := ⟨⟨by decide +kernel, by decide +kernel⟩, List.mem_of_getElem? (i := 728) (by decide +kernel), List.mem_of_getElem? (i := 882) (by decide +kernel), List.mem_of_getElem? (i := 883) (by decide +kernel)⟩
theorem lw_p37 : lw_okq (⟨"GloveAboutModel", "readLineOf", "(I)V"⟩, 30) := ⟨⟨by decide +kernel, by decide +kernel⟩, List.mem_of_getElem? (i := 728) (by decide +kernel), List.mem_of_getElem? (i := 886) (by decide +kernel), List.mem_of_getElem? (i := 887) (by decide +kernel)⟩
theorem lw_p38 : lw_okq (⟨"GloveAboutModel", "readFames", "()V"⟩, 30) := ⟨⟨by decide +kernel, by decide +kernel⟩, List.mem_of_getElem? (i := 728) (by decide +kernel), List.mem_of_getElem? (i := 890) (by decide +kernel), List.mem_of_getElem? (i := 891) (by decide +kernel)⟩
theorem lw_p39 : lw_okq (⟨"GloveAboutModel", "readNumber", "(II)I"⟩, 30) := ⟨⟨by decide +kernel, by decide +kernel⟩, List.mem_of_getElem? (i := 728) (by decide +kernel), List.mem_of_getElem? (i := 894) (by decide +kernel), List.mem_of_getElem? (i := 895) (by decide +kernel)⟩
theorem lw_p40 : lw_okq (⟨"GloveAboutModel", "looked", "(II)I"⟩, 30) := ⟨⟨by decide +kernel, by decide +kernel⟩, List.mem_of_getElem? (i := 728) (by decide +kernel), List.mem_of_getElem? (i := 898) (by decide +kernel), List.mem_of_getElem? (i := 899) (by decide +kernel)⟩
theorem lw_p41 : lw_okq (⟨"GloveAboutModel", "readRoute", "()V"⟩, 30) := ⟨⟨by decide +kernel, by decide +kernel⟩, List.mem_of_getElem? (i := 728) (by decide +kernel), List.mem_of_getElem? (i := 902) (by decide +kernel), List.mem_of_getElem? (i := 903) (by decide +kernel)⟩
theorem lw_p42 : lw_okq (⟨"GloveAboutModel", "starts", "()V"⟩, 30) := ⟨⟨by decide +kernel, by decide +kernel⟩, List.mem_of_getElem? (i := 728) (by decide +kernel), List.mem_of_getElem? (i := 914) (by decide +kernel), List.mem_of_getElem? (i := 915) (by decide +kernel)⟩
theorem lw_p43 : lw_okq (⟨"GloveAboutModel", "pairedNow", "()I"⟩, 30) := ⟨⟨by decide +kernel, by decide +kernel⟩, List.mem_of_getElem? (i := 728) (by decide +kernel), List.mem_of_getElem? (i := 918) (by decide +kernel), List.mem_of_getElem? (i := 919) (by decide +kernel)⟩
theorem lw_p44 : lw_okq (⟨"GloveAboutModel", "isPaired", "(I)Z"⟩, 30) := ⟨⟨by decide +kernel, by decide +kernel⟩, List.mem_of_getElem? (i := 728) (by decide +kernel), List.mem_of_getElem? (i := 922) (by decide +kernel), List.mem_of_getElem? (i := 923) (by decide +kernel)⟩
theorem lw_p45 : lw_okq (⟨"GloveAboutModel", "of", "(II)I"⟩, 30) := ⟨⟨by decide +kernel, by decide +kernel⟩, List.mem_of_getElem? (i := 728) (by decide +kernel), List.mem_of_getElem? (i := 926) (by decide +kernel), List.mem_of_getElem? (i := 927) (by decide +kernel)⟩
theorem lw_p46 : lw_okq (⟨"GloveAboutModel", "coldNow", "()I"⟩, 30) := ⟨⟨by decide +kernel, by decide +kernel⟩, List.mem_of_getElem? (i := 728) (by decide +kernel), List.mem_of_getElem? (i := 933) (by decide +kernel), List.mem_of_getElem? (i := 934) (by decide +kernel)⟩
theorem lw_p47 : lw_okq (⟨"GloveAboutModel", "isCold", "(I)Z"⟩, 30) := ⟨⟨by decide +kernel, by decide +kernel⟩, List.mem_of_getElem? (i := 728) (by decide +kernel), List.mem_of_getElem? (i := 937) (by decide +kernel), List.mem_of_getElem? (i := 938) (by decide +kernel)⟩
def lw_privs_3 : List (MethodName × Nat) := [(⟨"GloveAboutModel", "readLine", "()V"⟩, 30), (⟨"GloveAboutModel", "lineNow", "()I"⟩, 30), (⟨"GloveAboutModel", "is", "(IIII)Z"⟩, 30), (⟨"GloveAboutModel", "endsIn", "(III)Z"⟩, 30), (⟨"GloveAboutModel", "wasTold", "(I)Z"⟩, 30), (⟨"GloveAboutModel", "readLineOf", "(I)V"⟩, 30), (⟨"GloveAboutModel", "readFames", "()V"⟩, 30), (⟨"GloveAboutModel", "readNumber", "(II)I"⟩, 30), (⟨"GloveAboutModel", "looked", "(II)I"⟩, 30), (⟨"GloveAboutModel", "readRoute", "()V"⟩, 30), (⟨"GloveAboutModel", "starts", "()V"⟩, 30), (⟨"GloveAboutModel", "pairedNow", "()I"⟩, 30), (⟨"GloveAboutModel", "isPaired", "(I)Z"⟩, 30), (⟨"GloveAboutModel", "of", "(II)I"⟩, 30), (⟨"GloveAboutModel", "coldNow", "()I"⟩, 30), (⟨"GloveAboutModel", "isCold", "(I)Z"⟩, 30)]
theorem lw_r3 : ∀ q ∈ lw_privs_3, lw_okq q := List.forall_mem_cons.mpr ⟨lw_p32, List.forall_mem_cons.mpr ⟨lw_p33, List.forall_mem_cons.mpr ⟨lw_p34, List.forall_mem_cons.mpr ⟨lw_p35, List.forall_mem_cons.mpr ⟨lw_p36, List.forall_mem_cons.mpr ⟨lw_p37, List.forall_mem_cons.mpr ⟨lw_p38, List.forall_mem_cons.mpr ⟨lw_p39, List.forall_mem_cons.mpr ⟨lw_p40, List.forall_mem_cons.mpr ⟨lw_p41, List.forall_mem_cons.mpr ⟨lw_p42, List.forall_mem_cons.mpr ⟨lw_p43, List.forall_mem_cons.mpr ⟨lw_p44, List.forall_mem_cons.mpr ⟨lw_p45, List.forall_mem_cons.mpr ⟨lw_p46, List.forall_mem_cons.mpr ⟨lw_p47, fun _ h => absurd h List.not_mem_nil⟩⟩⟩⟩⟩⟩⟩⟩⟩⟩⟩⟩⟩⟩⟩⟩
theorem lw_p48 : lw_okq (⟨"GloveAboutModel", "isGlove", "(I)Z"⟩, 30) := ⟨⟨by decide +kernel, by decide +kernel⟩, List.mem_of_getElem? (i := 728) (by decide +kernel), List.mem_of_getElem? (i := 945) (by decide +kernel), List.mem_of_getElem? (i := 946) (by decide +kernel)⟩
theorem lw_p49 : lw_okq (⟨"GloveAboutModel", "doorOf", "(I)I"⟩, 30) := ⟨⟨by decide +kernel, by decide +kernel⟩, List.mem_of_getElem? (i := 728) (by decide +kernel), List.mem_of_getElem? (i := 949) (by decide +kernel), List.mem_of_getElem? (i := 950) (by decide +kernel)⟩
theorem lw_p50 : lw_okq (⟨"GloveAboutModel", "stepOf", "(I)I"⟩, 30) := ⟨⟨by decide +kernel, by decide +kernel⟩, List.mem_of_getElem? (i := 728) (by decide +kernel), List.mem_of_getElem? (i := 956) (by decide +kernel), List.mem_of_getElem? (i := 957) (by decide +kernel)⟩
theorem lw_p51 : lw_okq (⟨"GloveAboutModel", "isCall", "(I)Z"⟩, 30) := ⟨⟨by decide +kernel, by decide +kernel⟩, List.mem_of_getElem? (i := 728) (by decide +kernel), List.mem_of_getElem? (i := 975) (by decide +kernel), List.mem_of_getElem? (i := 976) (by decide +kernel)⟩
theorem lw_p52 : lw_okq (⟨"GloveAboutModel", "wasPaired", "(I)Z"⟩, 30) := ⟨⟨by decide +kernel, by decide +kernel⟩, List.mem_of_getElem? (i := 728) (by decide +kernel), List.mem_of_getElem? (i := 985) (by decide +kernel), List.mem_of_getElem? (i := 986) (by decide +kernel)⟩
theorem lw_p53 : lw_okq (⟨"GloveAboutModel", "becomes", "(II)I"⟩, 30) := ⟨⟨by decide +kernel, by decide +kernel⟩, List.mem_of_getElem? (i := 728) (by decide +kernel), List.mem_of_getElem? (i := 989) (by decide +kernel), List.mem_of_getElem? (i := 990) (by decide +kernel)⟩
theorem lw_p54 : lw_okq (⟨"GloveAboutModel", "nameBehind", "(I)I"⟩, 30) := ⟨⟨by decide +kernel, by decide +kernel⟩, List.mem_of_getElem? (i := 728) (by decide +kernel), List.mem_of_getElem? (i := 1019) (by decide +kernel), List.mem_of_getElem? (i := 1020) (by decide +kernel)⟩
theorem lw_p55 : lw_okq (⟨"GloveAboutModel", "daysGo", "(I)V"⟩, 30) := ⟨⟨by decide +kernel, by decide +kernel⟩, List.mem_of_getElem? (i := 728) (by decide +kernel), List.mem_of_getElem? (i := 1023) (by decide +kernel), List.mem_of_getElem? (i := 1024) (by decide +kernel)⟩
theorem lw_p56 : lw_okq (⟨"GloveAboutModel", "nextDoor", "()I"⟩, 30) := ⟨⟨by decide +kernel, by decide +kernel⟩, List.mem_of_getElem? (i := 728) (by decide +kernel), List.mem_of_getElem? (i := 1027) (by decide +kernel), List.mem_of_getElem? (i := 1028) (by decide +kernel)⟩
theorem lw_p57 : lw_okq (⟨"GloveAboutModel", "dayGoesAt", "(I)V"⟩, 30) := ⟨⟨by decide +kernel, by decide +kernel⟩, List.mem_of_getElem? (i := 728) (by decide +kernel), List.mem_of_getElem? (i := 1031) (by decide +kernel), List.mem_of_getElem? (i := 1032) (by decide +kernel)⟩
theorem lw_p58 : lw_okq (⟨"GloveAboutModel", "gloveGoes", "(I)V"⟩, 30) := ⟨⟨by decide +kernel, by decide +kernel⟩, List.mem_of_getElem? (i := 728) (by decide +kernel), List.mem_of_getElem? (i := 1035) (by decide +kernel), List.mem_of_getElem? (i := 1036) (by decide +kernel)⟩
theorem lw_p59 : lw_okq (⟨"GloveAboutModel", "becomesOf", "(III)V"⟩, 30) := ⟨⟨by decide +kernel, by decide +kernel⟩, List.mem_of_getElem? (i := 728) (by decide +kernel), List.mem_of_getElem? (i := 1042) (by decide +kernel), List.mem_of_getElem? (i := 1043) (by decide +kernel)⟩
theorem lw_p60 : lw_okq (⟨"GloveAboutModel", "nameMore", "()I"⟩, 30) := ⟨⟨by decide +kernel, by decide +kernel⟩, List.mem_of_getElem? (i := 728) (by decide +kernel), List.mem_of_getElem? (i := 1046) (by decide +kernel), List.mem_of_getElem? (i := 1047) (by decide +kernel)⟩
theorem lw_p61 : lw_okq (⟨"GloveAboutModel", "settles", "()V"⟩, 30) := ⟨⟨by decide +kernel, by decide +kernel⟩, List.mem_of_getElem? (i := 728) (by decide +kernel), List.mem_of_getElem? (i := 1050) (by decide +kernel), List.mem_of_getElem? (i := 1051) (by decide +kernel)⟩
theorem lw_p62 : lw_okq (⟨"GloveAboutModel", "startsJudging", "(I)V"⟩, 30) := ⟨⟨by decide +kernel, by decide +kernel⟩, List.mem_of_getElem? (i := 728) (by decide +kernel), List.mem_of_getElem? (i := 1075) (by decide +kernel), List.mem_of_getElem? (i := 1076) (by decide +kernel)⟩
theorem lw_p63 : lw_okq (⟨"GloveAboutModel", "metBehind", "(I)I"⟩, 30) := ⟨⟨by decide +kernel, by decide +kernel⟩, List.mem_of_getElem? (i := 728) (by decide +kernel), List.mem_of_getElem? (i := 1079) (by decide +kernel), List.mem_of_getElem? (i := 1080) (by decide +kernel)⟩
def lw_privs_4 : List (MethodName × Nat) := [(⟨"GloveAboutModel", "isGlove", "(I)Z"⟩, 30), (⟨"GloveAboutModel", "doorOf", "(I)I"⟩, 30), (⟨"GloveAboutModel", "stepOf", "(I)I"⟩, 30), (⟨"GloveAboutModel", "isCall", "(I)Z"⟩, 30), (⟨"GloveAboutModel", "wasPaired", "(I)Z"⟩, 30), (⟨"GloveAboutModel", "becomes", "(II)I"⟩, 30), (⟨"GloveAboutModel", "nameBehind", "(I)I"⟩, 30), (⟨"GloveAboutModel", "daysGo", "(I)V"⟩, 30), (⟨"GloveAboutModel", "nextDoor", "()I"⟩, 30), (⟨"GloveAboutModel", "dayGoesAt", "(I)V"⟩, 30), (⟨"GloveAboutModel", "gloveGoes", "(I)V"⟩, 30), (⟨"GloveAboutModel", "becomesOf", "(III)V"⟩, 30), (⟨"GloveAboutModel", "nameMore", "()I"⟩, 30), (⟨"GloveAboutModel", "settles", "()V"⟩, 30), (⟨"GloveAboutModel", "startsJudging", "(I)V"⟩, 30), (⟨"GloveAboutModel", "metBehind", "(I)I"⟩, 30)]
theorem lw_r4 : ∀ q ∈ lw_privs_4, lw_okq q := List.forall_mem_cons.mpr ⟨lw_p48, List.forall_mem_cons.mpr ⟨lw_p49, List.forall_mem_cons.mpr ⟨lw_p50, List.forall_mem_cons.mpr ⟨lw_p51, List.forall_mem_cons.mpr ⟨lw_p52, List.forall_mem_cons.mpr ⟨lw_p53, List.forall_mem_cons.mpr ⟨lw_p54, List.forall_mem_cons.mpr ⟨lw_p55, List.forall_mem_cons.mpr ⟨lw_p56, List.forall_mem_cons.mpr ⟨lw_p57, List.forall_mem_cons.mpr ⟨lw_p58, List.forall_mem_cons.mpr ⟨lw_p59, List.forall_mem_cons.mpr ⟨lw_p60, List.forall_mem_cons.mpr ⟨lw_p61, List.forall_mem_cons.mpr ⟨lw_p62, List.forall_mem_cons.mpr ⟨lw_p63, fun _ h => absurd h List.not_mem_nil⟩⟩⟩⟩⟩⟩⟩⟩⟩⟩⟩⟩⟩⟩⟩⟩
theorem lw_p64 : lw_okq (⟨"GloveAboutModel", "metMany", "()I"⟩, 30) := ⟨⟨by decide +kernel, by decide +kernel⟩, List.mem_of_getElem? (i := 728) (by decide +kernel), List.mem_of_getElem? (i := 1083) (by decide +kernel), List.mem_of_getElem? (i := 1084) (by decide +kernel)⟩
theorem lw_p65 : lw_okq (⟨"GloveAboutModel", "judges", "(II)V"⟩, 30) := ⟨⟨by decide +kernel, by decide +kernel⟩, List.mem_of_getElem? (i := 728) (by decide +kernel), List.mem_of_getElem? (i := 1087) (by decide +kernel), List.mem_of_getElem? (i := 1088) (by decide +kernel)⟩
theorem lw_p66 : lw_okq (⟨"GloveAboutModel", "judged", "(I)I"⟩, 30) := ⟨⟨by decide +kernel, by decide +kernel⟩, List.mem_of_getElem? (i := 728) (by decide +kernel), List.mem_of_getElem? (i := 1091) (by decide +kernel), List.mem_of_getElem? (i := 1092) (by decide +kernel)⟩
theorem lw_p67 : lw_okq (⟨"GloveAboutModel", "findOdds", "(III)V"⟩, 30) := ⟨⟨by decide +kernel, by decide +kernel⟩, List.mem_of_getElem? (i := 728) (by decide +kernel), List.mem_of_getElem? (i := 1126) (by decide +kernel), List.mem_of_getElem? (i := 1127) (by decide +kernel)⟩
theorem lw_p68 : lw_okq (⟨"GloveAboutModel", "which", "(II)I"⟩, 30) := ⟨⟨by decide +kernel, by decide +kernel⟩, List.mem_of_getElem? (i := 728) (by decide +kernel), List.mem_of_getElem? (i := 1152) (by decide +kernel), List.mem_of_getElem? (i := 1153) (by decide +kernel)⟩
theorem lw_p69 : lw_okq (⟨"GloveAboutModel", "isSoWith", "(II)Z"⟩, 30) := ⟨⟨by decide +kernel, by decide +kernel⟩, List.mem_of_getElem? (i := 728) (by decide +kernel), List.mem_of_getElem? (i := 1156) (by decide +kernel), List.mem_of_getElem? (i := 1157) (by decide +kernel)⟩
theorem lw_p70 : lw_okq (⟨"GloveAboutModel", "copies", "(II)V"⟩, 30) := ⟨⟨by decide +kernel, by decide +kernel⟩, List.mem_of_getElem? (i := 728) (by decide +kernel), List.mem_of_getElem? (i := 1177) (by decide +kernel), List.mem_of_getElem? (i := 1178) (by decide +kernel)⟩
def lw_privs_5 : List (MethodName × Nat) := [(⟨"GloveAboutModel", "metMany", "()I"⟩, 30), (⟨"GloveAboutModel", "judges", "(II)V"⟩, 30), (⟨"GloveAboutModel", "judged", "(I)I"⟩, 30), (⟨"GloveAboutModel", "findOdds", "(III)V"⟩, 30), (⟨"GloveAboutModel", "which", "(II)I"⟩, 30), (⟨"GloveAboutModel", "isSoWith", "(II)Z"⟩, 30), (⟨"GloveAboutModel", "copies", "(II)V"⟩, 30)]
theorem lw_r5 : ∀ q ∈ lw_privs_5, lw_okq q := List.forall_mem_cons.mpr ⟨lw_p64, List.forall_mem_cons.mpr ⟨lw_p65, List.forall_mem_cons.mpr ⟨lw_p66, List.forall_mem_cons.mpr ⟨lw_p67, List.forall_mem_cons.mpr ⟨lw_p68, List.forall_mem_cons.mpr ⟨lw_p69, List.forall_mem_cons.mpr ⟨lw_p70, fun _ h => absurd h List.not_mem_nil⟩⟩⟩⟩⟩⟩⟩
def lw_privs : List (MethodName × Nat) := lw_privs_1 ++ (lw_privs_2 ++ (lw_privs_3 ++ (lw_privs_4 ++ (lw_privs_5))))
def lw_tbl : List Cond := k2_sels lw_privs ++ tables_1
theorem lw_privs_ok : ∀ q ∈ lw_privs, lw_okq q := by
  show ∀ q ∈ lw_privs_1 ++ (lw_privs_2 ++ (lw_privs_3 ++ (lw_privs_4 ++ (lw_privs_5)))), lw_okq q
  exact List.forall_mem_append.mpr ⟨lw_r1, List.forall_mem_append.mpr ⟨lw_r2, List.forall_mem_append.mpr ⟨lw_r3, List.forall_mem_append.mpr ⟨lw_r4, lw_r5⟩⟩⟩⟩
end
section
def RX0 : String := "GloveAbout$Image"
def TX0 : u_T := fun k => match k with
  | 0 => ("GloveAbout$Image", "world", "LGloveAbout$World;", true)
  | 1 => ("GloveAbout$Image", "seen", "LGloveAbout$Sights;", true)
  | _ => ("GloveAbout$Image", "kept", "Z", false)
def tyX0 : Nat → FieldType := fun k => match k with
  | 0 => .object "GloveAbout$World"
  | 1 => .object "GloveAbout$Sights"
  | _ => .boolean
theorem nmX0 : ∀ a, a < 3 → ∀ b, b < 3 → a ≠ b → (TX0 a).2.1 ≠ (TX0 b).2.1 := by decide +kernel
theorem tyX0_ok : ∀ k, k < 3 → parseFieldDescriptor (TX0 k).2.2.1 = some (tyX0 k) := by decide +kernel
abbrev cX0_init : ByteArray := prog_2_method_1_code
def yX0_init : MethodName := ⟨RX0, "<init>", "()V"⟩
def RX1 : String := "GloveAbout$Sheet"
def TX1 : u_T := fun k => match k with
  | 0 => ("GloveAbout$Sheet", "cells", "[I", true)
  | 1 => ("GloveAbout$Sheet", "lane", "I", false)
  | _ => ("GloveAbout$Sheet", "size", "I", false)
def tyX1 : Nat → FieldType := fun k => match k with
  | 0 => .array .int
  | 1 => .int
  | _ => .int
theorem nmX1 : ∀ a, a < 3 → ∀ b, b < 3 → a ≠ b → (TX1 a).2.1 ≠ (TX1 b).2.1 := by decide +kernel
theorem tyX1_ok : ∀ k, k < 3 → parseFieldDescriptor (TX1 k).2.2.1 = some (tyX1 k) := by decide +kernel
abbrev cX1_init : ByteArray := prog_3_method_1_code
def yX1_init : MethodName := ⟨RX1, "<init>", "()V"⟩
abbrev cX1_makeNew : ByteArray := prog_3_method_2_code
def yX1_makeNew : MethodName := ⟨RX1, "makeNew", "(II)V"⟩
abbrev cX1_isNothing : ByteArray := prog_3_method_3_code
def yX1_isNothing : MethodName := ⟨RX1, "isNothing", "()Z"⟩
abbrev cX1_faultAt : ByteArray := prog_3_method_4_code
def yX1_faultAt : MethodName := ⟨RX1, "faultAt", "(I)I"⟩
abbrev cX1_faultAtPair : ByteArray := prog_3_method_5_code
def yX1_faultAtPair : MethodName := ⟨RX1, "faultAtPair", "(II)I"⟩
abbrev cX1_lowestBits : ByteArray := prog_3_method_6_code
def yX1_lowestBits : MethodName := ⟨RX1, "lowestBits", "(I)I"⟩
def RX2 : String := "GloveAbout$Sights"
def TX2 : u_T := fun k => match k with
  | 0 => ("GloveAbout$Sights", "day", "[I", true)
  | 1 => ("GloveAbout$Sights", "glove", "[I", true)
  | 2 => ("GloveAbout$Sights", "door", "[I", true)
  | _ => ("GloveAbout$Sights", "count", "I", false)
def tyX2 : Nat → FieldType := fun k => match k with
  | 0 => .array .int
  | 1 => .array .int
  | 2 => .array .int
  | _ => .int
theorem nmX2 : ∀ a, a < 4 → ∀ b, b < 4 → a ≠ b → (TX2 a).2.1 ≠ (TX2 b).2.1 := by decide +kernel
theorem tyX2_ok : ∀ k, k < 4 → parseFieldDescriptor (TX2 k).2.2.1 = some (tyX2 k) := by decide +kernel
abbrev cX2_init : ByteArray := prog_4_method_1_code
def yX2_init : MethodName := ⟨RX2, "<init>", "()V"⟩
abbrev cX2_become : ByteArray := prog_4_method_2_code
def yX2_become : MethodName := ⟨RX2, "become", "(LGloveAbout$Sights;)V"⟩
abbrev cX2_add : ByteArray := prog_4_method_3_code
def yX2_add : MethodName := ⟨RX2, "add", "(III)V"⟩
abbrev cX2_lastDay : ByteArray := prog_4_method_4_code
def yX2_lastDay : MethodName := ⟨RX2, "lastDay", "()I"⟩
abbrev cX2_fits : ByteArray := prog_4_method_5_code
def yX2_fits : MethodName := ⟨RX2, "fits", "(ILGloveAbout$World;)Z"⟩
def RX3 : String := "GloveAbout$Tape"
def TX3 : u_T := fun k => match k with
  | 0 => ("GloveAbout$Tape", "bytes", "[B", true)
  | _ => ("GloveAbout$Tape", "length", "I", false)
def tyX3 : Nat → FieldType := fun k => match k with
  | 0 => .array .byte
  | _ => .int
theorem nmX3 : ∀ a, a < 2 → ∀ b, b < 2 → a ≠ b → (TX3 a).2.1 ≠ (TX3 b).2.1 := by decide +kernel
theorem tyX3_ok : ∀ k, k < 2 → parseFieldDescriptor (TX3 k).2.2.1 = some (tyX3 k) := by decide +kernel
abbrev cX3_init : ByteArray := prog_5_method_1_code
def yX3_init : MethodName := ⟨RX3, "<init>", "()V"⟩
def RX4 : String := "GloveAbout$TextReader"
def TX4 : u_T := fun k => match k with
  | 0 => ("GloveAbout$TextReader", "tape", "LGloveAbout$Tape;", true)
  | 1 => ("GloveAbout$TextReader", "draft", "LGloveAbout$World;", true)
  | 2 => ("GloveAbout$TextReader", "next", "I", false)
  | 3 => ("GloveAbout$TextReader", "token", "I", false)
  | 4 => ("GloveAbout$TextReader", "number", "I", false)
  | 5 => ("GloveAbout$TextReader", "told", "I", false)
  | 6 => ("GloveAbout$TextReader", "rowLength", "I", false)
  | 7 => ("GloveAbout$TextReader", "start", "I", false)
  | 8 => ("GloveAbout$TextReader", "fault", "I", false)
  | _ => ("GloveAbout$TextReader", "lines", "I", false)
def tyX4 : Nat → FieldType := fun k => match k with
  | 0 => .object "GloveAbout$Tape"
  | 1 => .object "GloveAbout$World"
  | 2 => .int
  | 3 => .int
  | 4 => .int
  | 5 => .int
  | 6 => .int
  | 7 => .int
  | 8 => .int
  | _ => .int
theorem nmX4 : ∀ a, a < 10 → ∀ b, b < 10 → a ≠ b → (TX4 a).2.1 ≠ (TX4 b).2.1 := by decide +kernel
theorem tyX4_ok : ∀ k, k < 10 → parseFieldDescriptor (TX4 k).2.2.1 = some (tyX4 k) := by decide +kernel
abbrev cX4_init : ByteArray := prog_6_method_1_code
def yX4_init : MethodName := ⟨RX4, "<init>", "(LGloveAbout$Tape;LGloveAbout$World;)V"⟩
abbrev cX4_takesAll : ByteArray := prog_6_method_2_code
def yX4_takesAll : MethodName := ⟨RX4, "takesAll", "()Z"⟩
abbrev cX4_refuses : ByteArray := prog_6_method_3_code
def yX4_refuses : MethodName := ⟨RX4, "refuses", "(I)Z"⟩
abbrev cX4_takesLine : ByteArray := prog_6_method_4_code
def yX4_takesLine : MethodName := ⟨RX4, "takesLine", "()Z"⟩
abbrev cX4_takesGlove : ByteArray := prog_6_method_5_code
def yX4_takesGlove : MethodName := ⟨RX4, "takesGlove", "(I)Z"⟩
abbrev cX4_takesRoute : ByteArray := prog_6_method_6_code
def yX4_takesRoute : MethodName := ⟨RX4, "takesRoute", "()Z"⟩
abbrev cX4_takesMan : ByteArray := prog_6_method_7_code
def yX4_takesMan : MethodName := ⟨RX4, "takesMan", "()Z"⟩
abbrev cX4_takesRow : ByteArray := prog_6_method_8_code
def yX4_takesRow : MethodName := ⟨RX4, "takesRow", "([II)Z"⟩
abbrev cX4_takesNumber : ByteArray := prog_6_method_9_code
def yX4_takesNumber : MethodName := ⟨RX4, "takesNumber", "(I)Z"⟩
abbrev cX4_takesMark : ByteArray := prog_6_method_10_code
def yX4_takesMark : MethodName := ⟨RX4, "takesMark", "()Z"⟩
abbrev cX4_readsToken : ByteArray := prog_6_method_11_code
def yX4_readsToken : MethodName := ⟨RX4, "readsToken", "()Z"⟩
abbrev cX4_readsWord : ByteArray := prog_6_method_12_code
def yX4_readsWord : MethodName := ⟨RX4, "readsWord", "()Z"⟩
abbrev cX4_readsNumber : ByteArray := prog_6_method_13_code
def yX4_readsNumber : MethodName := ⟨RX4, "readsNumber", "()Z"⟩
abbrev cX4_isLetter : ByteArray := prog_6_method_14_code
def yX4_isLetter : MethodName := ⟨RX4, "isLetter", "(I)Z"⟩
abbrev cX4_isFigure : ByteArray := prog_6_method_15_code
def yX4_isFigure : MethodName := ⟨RX4, "isFigure", "(I)Z"⟩
abbrev cX4_wordRead : ByteArray := prog_6_method_16_code
def yX4_wordRead : MethodName := ⟨RX4, "wordRead", "()I"⟩
abbrev cX4_isSpelled : ByteArray := prog_6_method_17_code
def yX4_isSpelled : MethodName := ⟨RX4, "isSpelled", "(Ljava/lang/String;)Z"⟩
abbrev cX4_spellingOf : ByteArray := prog_6_method_18_code
def yX4_spellingOf : MethodName := ⟨RX4, "spellingOf", "(I)Ljava/lang/String;"⟩
def RX5 : String := "GloveAbout$World"
def TX5 : u_T := fun k => match k with
  | 0 => ("GloveAbout$World", "fames", "[I", true)
  | 1 => ("GloveAbout$World", "kind", "[I", true)
  | 2 => ("GloveAbout$World", "at", "[I", true)
  | 3 => ("GloveAbout$World", "warm", "[I", true)
  | 4 => ("GloveAbout$World", "route", "[I", true)
  | 5 => ("GloveAbout$World", "paired", "I", false)
  | 6 => ("GloveAbout$World", "gloves", "I", false)
  | 7 => ("GloveAbout$World", "calls", "I", false)
  | 8 => ("GloveAbout$World", "man", "I", false)
  | 9 => ("GloveAbout$World", "name", "I", false)
  | _ => ("GloveAbout$World", "day", "I", false)
def tyX5 : Nat → FieldType := fun k => match k with
  | 0 => .array .int
  | 1 => .array .int
  | 2 => .array .int
  | 3 => .array .int
  | 4 => .array .int
  | 5 => .int
  | 6 => .int
  | 7 => .int
  | 8 => .int
  | 9 => .int
  | _ => .int
theorem nmX5 : ∀ a, a < 11 → ∀ b, b < 11 → a ≠ b → (TX5 a).2.1 ≠ (TX5 b).2.1 := by decide +kernel
theorem tyX5_ok : ∀ k, k < 11 → parseFieldDescriptor (TX5 k).2.2.1 = some (tyX5 k) := by decide +kernel
abbrev cX5_init : ByteArray := prog_7_method_1_code
def yX5_init : MethodName := ⟨RX5, "<init>", "()V"⟩
abbrev cX5_makeEmpty : ByteArray := prog_7_method_2_code
def yX5_makeEmpty : MethodName := ⟨RX5, "makeEmpty", "()V"⟩
abbrev cX5_become : ByteArray := prog_7_method_3_code
def yX5_become : MethodName := ⟨RX5, "become", "(LGloveAbout$World;)V"⟩
abbrev cX5_partOf : ByteArray := prog_7_method_4_code
def yX5_partOf : MethodName := ⟨RX5, "partOf", "(II)I"⟩
abbrev cX5_putPart : ByteArray := prog_7_method_5_code
def yX5_putPart : MethodName := ⟨RX5, "putPart", "(III)V"⟩
abbrev cX5_isPaired : ByteArray := prog_7_method_6_code
def yX5_isPaired : MethodName := ⟨RX5, "isPaired", "(I)Z"⟩
abbrev cX5_isCold : ByteArray := prog_7_method_7_code
def yX5_isCold : MethodName := ⟨RX5, "isCold", "(I)Z"⟩
abbrev cX5_coldOnes : ByteArray := prog_7_method_8_code
def yX5_coldOnes : MethodName := ⟨RX5, "coldOnes", "()I"⟩
abbrev cX5_glovesAt : ByteArray := prog_7_method_9_code
def yX5_glovesAt : MethodName := ⟨RX5, "glovesAt", "(I)I"⟩
abbrev cX5_metCount : ByteArray := prog_7_method_10_code
def yX5_metCount : MethodName := ⟨RX5, "metCount", "()I"⟩
abbrev cX5_leaveOutCall : ByteArray := prog_7_method_11_code
def yX5_leaveOutCall : MethodName := ⟨RX5, "leaveOutCall", "(I)V"⟩
abbrev cX5_stepOf : ByteArray := prog_7_method_12_code
def yX5_stepOf : MethodName := ⟨RX5, "stepOf", "(I)I"⟩
abbrev cX5_moveMan : ByteArray := prog_7_method_13_code
def yX5_moveMan : MethodName := ⟨RX5, "moveMan", "(I)V"⟩
abbrev cX5_passDays : ByteArray := prog_7_method_14_code
def yX5_passDays : MethodName := ⟨RX5, "passDays", "(I)V"⟩
abbrev cX5_passDay : ByteArray := prog_7_method_15_code
def yX5_passDay : MethodName := ⟨RX5, "passDay", "(I)V"⟩
abbrev cX5_passDayOfGlove : ByteArray := prog_7_method_16_code
def yX5_passDayOfGlove : MethodName := ⟨RX5, "passDayOfGlove", "(I)V"⟩
def RX6 : String := "GloveAbout"
def TX6 : u_T := fun k => match k with
  | 0 => ("GloveAbout", "now", "LGloveAbout$World;", true)
  | 1 => ("GloveAbout", "seen", "LGloveAbout$Sights;", true)
  | 2 => ("GloveAbout", "trial", "LGloveAbout$World;", true)
  | 3 => ("GloveAbout", "branches", "[LGloveAbout$World;", true)
  | 4 => ("GloveAbout", "tape", "LGloveAbout$Tape;", true)
  | 5 => ("GloveAbout", "reader", "LGloveAbout$TextReader;", true)
  | 6 => ("GloveAbout", "images", "[LGloveAbout$Image;", true)
  | 7 => ("GloveAbout", "sheets", "[LGloveAbout$Sheet;", true)
  | 8 => ("GloveAbout", "textFault", "I", false)
  | _ => ("GloveAbout", "readFault", "I", false)
def tyX6 : Nat → FieldType := fun k => match k with
  | 0 => .object "GloveAbout$World"
  | 1 => .object "GloveAbout$Sights"
  | 2 => .object "GloveAbout$World"
  | 3 => .array (.object "GloveAbout$World")
  | 4 => .object "GloveAbout$Tape"
  | 5 => .object "GloveAbout$TextReader"
  | 6 => .array (.object "GloveAbout$Image")
  | 7 => .array (.object "GloveAbout$Sheet")
  | 8 => .int
  | _ => .int
theorem nmX6 : ∀ a, a < 10 → ∀ b, b < 10 → a ≠ b → (TX6 a).2.1 ≠ (TX6 b).2.1 := by decide +kernel
theorem tyX6_ok : ∀ k, k < 10 → parseFieldDescriptor (TX6 k).2.2.1 = some (tyX6 k) := by decide +kernel
abbrev cX6_init : ByteArray := prog_1_method_1_code
def yX6_init : MethodName := ⟨RX6, "<init>", "()V"⟩
abbrev cX6_feed : ByteArray := prog_1_method_2_code
def yX6_feed : MethodName := ⟨RX6, "feed", "(I)I"⟩
abbrev cX6_end : ByteArray := prog_1_method_3_code
def yX6_end : MethodName := ⟨RX6, "end", "(I)I"⟩
abbrev cX6_text : ByteArray := prog_1_method_4_code
def yX6_text : MethodName := ⟨RX6, "text", "()I"⟩
abbrev cX6_fault : ByteArray := prog_1_method_5_code
def yX6_fault : MethodName := ⟨RX6, "fault", "()I"⟩
abbrev cX6_rule : ByteArray := prog_1_method_6_code
def yX6_rule : MethodName := ⟨RX6, "rule", "(I)I"⟩
abbrev cX6_glove : ByteArray := prog_1_method_7_code
def yX6_glove : MethodName := ⟨RX6, "glove", "(II)I"⟩
abbrev cX6_door : ByteArray := prog_1_method_8_code
def yX6_door : MethodName := ⟨RX6, "door", "(II)I"⟩
abbrev cX6_stop : ByteArray := prog_1_method_9_code
def yX6_stop : MethodName := ⟨RX6, "stop", "(I)I"⟩
abbrev cX6_alter : ByteArray := prog_1_method_10_code
def yX6_alter : MethodName := ⟨RX6, "alter", "(III)I"⟩
abbrev cX6_fame : ByteArray := prog_1_method_11_code
def yX6_fame : MethodName := ⟨RX6, "fame", "(II)I"⟩
abbrev cX6_leave : ByteArray := prog_1_method_12_code
def yX6_leave : MethodName := ⟨RX6, "leave", "(I)I"⟩
abbrev cX6_go : ByteArray := prog_1_method_13_code
def yX6_go : MethodName := ⟨RX6, "go", "(I)I"⟩
abbrev cX6_call : ByteArray := prog_1_method_14_code
def yX6_call : MethodName := ⟨RX6, "call", "(I)I"⟩
abbrev cX6_cut : ByteArray := prog_1_method_15_code
def yX6_cut : MethodName := ⟨RX6, "cut", "(I)I"⟩
abbrev cX6_days : ByteArray := prog_1_method_16_code
def yX6_days : MethodName := ⟨RX6, "days", "(I)I"⟩
abbrev cX6_runs : ByteArray := prog_1_method_17_code
def yX6_runs : MethodName := ⟨RX6, "runs", "(II)I"⟩
abbrev cX6_ahead : ByteArray := prog_1_method_18_code
def yX6_ahead : MethodName := ⟨RX6, "ahead", "(III)I"⟩
abbrev cX6_meets : ByteArray := prog_1_method_19_code
def yX6_meets : MethodName := ⟨RX6, "meets", "(I)I"⟩
abbrev cX6_place : ByteArray := prog_1_method_20_code
def yX6_place : MethodName := ⟨RX6, "place", "(III)I"⟩
abbrev cX6_extra : ByteArray := prog_1_method_21_code
def yX6_extra : MethodName := ⟨RX6, "extra", "(II)I"⟩
abbrev cX6_swap : ByteArray := prog_1_method_22_code
def yX6_swap : MethodName := ⟨RX6, "swap", "(II)I"⟩
abbrev cX6_shun : ByteArray := prog_1_method_23_code
def yX6_shun : MethodName := ⟨RX6, "shun", "(II)I"⟩
abbrev cX6_need : ByteArray := prog_1_method_24_code
def yX6_need : MethodName := ⟨RX6, "need", "(II)I"⟩
abbrev cX6_kind : ByteArray := prog_1_method_25_code
def yX6_kind : MethodName := ⟨RX6, "kind", "(III)I"⟩
abbrev cX6_drop : ByteArray := prog_1_method_26_code
def yX6_drop : MethodName := ⟨RX6, "drop", "(III)I"⟩
abbrev cX6_luck : ByteArray := prog_1_method_27_code
def yX6_luck : MethodName := ⟨RX6, "luck", "(IIII)J"⟩
abbrev cX6_mean : ByteArray := prog_1_method_28_code
def yX6_mean : MethodName := ⟨RX6, "mean", "(III)J"⟩
abbrev cX6_see : ByteArray := prog_1_method_29_code
def yX6_see : MethodName := ⟨RX6, "see", "(III)I"⟩
abbrev cX6_forget : ByteArray := prog_1_method_30_code
def yX6_forget : MethodName := ⟨RX6, "forget", "(I)I"⟩
abbrev cX6_kinds : ByteArray := prog_1_method_31_code
def yX6_kinds : MethodName := ⟨RX6, "kinds", "(I)I"⟩
abbrev cX6_doors : ByteArray := prog_1_method_32_code
def yX6_doors : MethodName := ⟨RX6, "doors", "(I)I"⟩
abbrev cX6_ask : ByteArray := prog_1_method_33_code
def yX6_ask : MethodName := ⟨RX6, "ask", "(II)I"⟩
abbrev cX6_drift : ByteArray := prog_1_method_34_code
def yX6_drift : MethodName := ⟨RX6, "drift", "(III)I"⟩
abbrev cX6_keep : ByteArray := prog_1_method_35_code
def yX6_keep : MethodName := ⟨RX6, "keep", "(I)I"⟩
abbrev cX6_back : ByteArray := prog_1_method_36_code
def yX6_back : MethodName := ⟨RX6, "back", "(I)I"⟩
abbrev cX6_sheet : ByteArray := prog_1_method_37_code
def yX6_sheet : MethodName := ⟨RX6, "sheet", "(III)I"⟩
abbrev cX6_lay : ByteArray := prog_1_method_38_code
def yX6_lay : MethodName := ⟨RX6, "lay", "(III)I"⟩
abbrev cX6_read : ByteArray := prog_1_method_39_code
def yX6_read : MethodName := ⟨RX6, "read", "(IIII)I"⟩
abbrev cX6_torn : ByteArray := prog_1_method_40_code
def yX6_torn : MethodName := ⟨RX6, "torn", "()I"⟩
abbrev cX6_count : ByteArray := prog_1_method_41_code
def yX6_count : MethodName := ⟨RX6, "count", "(I)I"⟩
abbrev cX6_isWithin : ByteArray := prog_1_method_42_code
def yX6_isWithin : MethodName := ⟨RX6, "isWithin", "(II)Z"⟩
abbrev cX6_isDoor : ByteArray := prog_1_method_43_code
def yX6_isDoor : MethodName := ⟨RX6, "isDoor", "(I)Z"⟩
abbrev cX6_isSheet : ByteArray := prog_1_method_44_code
def yX6_isSheet : MethodName := ⟨RX6, "isSheet", "(I)Z"⟩
abbrev cX6_isGlove : ByteArray := prog_1_method_45_code
def yX6_isGlove : MethodName := ⟨RX6, "isGlove", "(I)Z"⟩
abbrev cX6_isCall : ByteArray := prog_1_method_46_code
def yX6_isCall : MethodName := ⟨RX6, "isCall", "(I)Z"⟩
abbrev cX6_greatestOf : ByteArray := prog_1_method_47_code
def yX6_greatestOf : MethodName := ⟨RX6, "greatestOf", "(I)I"⟩
abbrev cX6_refusalOf : ByteArray := prog_1_method_48_code
def yX6_refusalOf : MethodName := ⟨RX6, "refusalOf", "(III)I"⟩
abbrev cX6_farOf : ByteArray := prog_1_method_49_code
def yX6_farOf : MethodName := ⟨RX6, "farOf", "(II)I"⟩
abbrev cX6_sumOf : ByteArray := prog_1_method_50_code
def yX6_sumOf : MethodName := ⟨RX6, "sumOf", "([II)I"⟩
abbrev cX6_imagesKept : ByteArray := prog_1_method_51_code
def yX6_imagesKept : MethodName := ⟨RX6, "imagesKept", "()I"⟩
abbrev cX6_firstPairing : ByteArray := prog_1_method_52_code
def yX6_firstPairing : MethodName := ⟨RX6, "firstPairing", "(II)I"⟩
abbrev cX6_nameBehind : ByteArray := prog_1_method_53_code
def yX6_nameBehind : MethodName := ⟨RX6, "nameBehind", "(I)I"⟩
abbrev cX6_nameWithSwap : ByteArray := prog_1_method_54_code
def yX6_nameWithSwap : MethodName := ⟨RX6, "nameWithSwap", "(III)I"⟩
abbrev cX6_bestDoorOfCall : ByteArray := prog_1_method_55_code
def yX6_bestDoorOfCall : MethodName := ⟨RX6, "bestDoorOfCall", "(III)I"⟩
abbrev cX6_mostNamedPart : ByteArray := prog_1_method_56_code
def yX6_mostNamedPart : MethodName := ⟨RX6, "mostNamedPart", "(IIII)I"⟩
abbrev cX6_partsAsSeen : ByteArray := prog_1_method_57_code
def yX6_partsAsSeen : MethodName := ⟨RX6, "partsAsSeen", "(II)I"⟩
abbrev cX6_trialGoesAsSeen : ByteArray := prog_1_method_58_code
def yX6_trialGoesAsSeen : MethodName := ⟨RX6, "trialGoesAsSeen", "()Z"⟩
abbrev cX6_mostAtOneDoor : ByteArray := prog_1_method_59_code
def yX6_mostAtOneDoor : MethodName := ⟨RX6, "mostAtOneDoor", "(II)I"⟩
abbrev cX6_fractionByOdds : ByteArray := prog_1_method_60_code
def yX6_fractionByOdds : MethodName := ⟨RX6, "fractionByOdds", "(IIII)J"⟩
abbrev cX6_weighedBranches : ByteArray := prog_1_method_61_code
def yX6_weighedBranches : MethodName := ⟨RX6, "weighedBranches", "([LGloveAbout$World;IIII)J"⟩
abbrev cX6_commonDivisor : ByteArray := prog_1_method_62_code
def yX6_commonDivisor : MethodName := ⟨RX6, "commonDivisor", "(JJ)J"⟩
def RX7 : String := "GloveAboutModel"
def TX7 : u_T := fun k => match k with
  | 0 => ("GloveAboutModel", "st", "[I", true)
  | 1 => ("GloveAboutModel", "now", "[I", true)
  | 2 => ("GloveAboutModel", "isKept", "[Z", true)
  | 3 => ("GloveAboutModel", "gloves", "I", false)
  | 4 => ("GloveAboutModel", "draft", "[I", true)
  | 5 => ("GloveAboutModel", "dGloves", "I", false)
  | 6 => ("GloveAboutModel", "fames", "I", false)
  | 7 => ("GloveAboutModel", "hasFame", "Z", false)
  | 8 => ("GloveAboutModel", "hasRoute", "Z", false)
  | 9 => ("GloveAboutModel", "hasMan", "Z", false)
  | 10 => ("GloveAboutModel", "tape", "[I", true)
  | 11 => ("GloveAboutModel", "taped", "I", false)
  | 12 => ("GloveAboutModel", "pos", "I", false)
  | 13 => ("GloveAboutModel", "begun", "I", false)
  | 14 => ("GloveAboutModel", "sort", "I", false)
  | 15 => ("GloveAboutModel", "value", "I", false)
  | 16 => ("GloveAboutModel", "fault", "I", false)
  | 17 => ("GloveAboutModel", "wrongAt", "I", false)
  | 18 => ("GloveAboutModel", "bestCode", "I", false)
  | 19 => ("GloveAboutModel", "bestMuch", "I", false)
  | 20 => ("GloveAboutModel", "pairSum", "J", false)
  | 21 => ("GloveAboutModel", "nameSum", "J", false)
  | 22 => ("GloveAboutModel", "allWays", "J", false)
  | 23 => ("GloveAboutModel", "were", "[I", true)
  | 24 => ("GloveAboutModel", "byKind", "[I", true)
  | 25 => ("GloveAboutModel", "lanes", "[I", true)
  | 26 => ("GloveAboutModel", "sizes", "[I", true)
  | 27 => ("GloveAboutModel", "cells", "[I", true)
  | 28 => ("GloveAboutModel", "torn", "I", false)
  | _ => ("GloveAboutModel", "before", "[I", true)
def tyX7 : Nat → FieldType := fun k => match k with
  | 0 => .array .int
  | 1 => .array .int
  | 2 => .array .boolean
  | 3 => .int
  | 4 => .array .int
  | 5 => .int
  | 6 => .int
  | 7 => .boolean
  | 8 => .boolean
  | 9 => .boolean
  | 10 => .array .int
  | 11 => .int
  | 12 => .int
  | 13 => .int
  | 14 => .int
  | 15 => .int
  | 16 => .int
  | 17 => .int
  | 18 => .int
  | 19 => .int
  | 20 => .long
  | 21 => .long
  | 22 => .long
  | 23 => .array .int
  | 24 => .array .int
  | 25 => .array .int
  | 26 => .array .int
  | 27 => .array .int
  | 28 => .int
  | _ => .array .int
theorem nmX7 : ∀ a, a < 30 → ∀ b, b < 30 → a ≠ b → (TX7 a).2.1 ≠ (TX7 b).2.1 := by decide +kernel
theorem tyX7_ok : ∀ k, k < 30 → parseFieldDescriptor (TX7 k).2.2.1 = some (tyX7 k) := by decide +kernel
abbrev cX7_init : ByteArray := prog_9_method_1_code
def yX7_init : MethodName := ⟨RX7, "<init>", "()V"⟩
abbrev cX7_in : ByteArray := prog_9_method_3_code
def yX7_in : MethodName := ⟨RX7, "in", "(JJJ)Z"⟩
abbrev cX7_flag : ByteArray := prog_9_method_4_code
def yX7_flag : MethodName := ⟨RX7, "flag", "(Z)I"⟩
abbrev cX7_lesser : ByteArray := prog_9_method_5_code
def yX7_lesser : MethodName := ⟨RX7, "lesser", "(II)I"⟩
abbrev cX7_firstDraft : ByteArray := prog_9_method_6_code
def yX7_firstDraft : MethodName := ⟨RX7, "firstDraft", "()V"⟩
abbrev cX7_keepDraft : ByteArray := prog_9_method_7_code
def yX7_keepDraft : MethodName := ⟨RX7, "keepDraft", "()V"⟩
abbrev cX7_feed : ByteArray := prog_9_method_8_code
def yX7_feed : MethodName := ⟨RX7, "feed", "(I)I"⟩
abbrev cX7_end : ByteArray := prog_9_method_9_code
def yX7_end : MethodName := ⟨RX7, "end", "(I)I"⟩
abbrev cX7_requires : ByteArray := prog_9_method_10_code
def yX7_requires : MethodName := ⟨RX7, "requires", "(ZI)V"⟩
abbrev cX7_byteAt : ByteArray := prog_9_method_11_code
def yX7_byteAt : MethodName := ⟨RX7, "byteAt", "(I)I"⟩
abbrev cX7_is : ByteArray := prog_9_method_12_code
def yX7_is : MethodName := ⟨RX7, "is", "(IIII)Z"⟩
abbrev cX7_endsIn : ByteArray := prog_9_method_13_code
def yX7_endsIn : MethodName := ⟨RX7, "endsIn", "(III)Z"⟩
abbrev cX7_lineNow : ByteArray := prog_9_method_14_code
def yX7_lineNow : MethodName := ⟨RX7, "lineNow", "()I"⟩
abbrev cX7_reads : ByteArray := prog_9_method_15_code
def yX7_reads : MethodName := ⟨RX7, "reads", "()V"⟩
abbrev cX7_looked : ByteArray := prog_9_method_16_code
def yX7_looked : MethodName := ⟨RX7, "looked", "(II)I"⟩
abbrev cX7_readNumber : ByteArray := prog_9_method_17_code
def yX7_readNumber : MethodName := ⟨RX7, "readNumber", "(II)I"⟩
abbrev cX7_readFames : ByteArray := prog_9_method_18_code
def yX7_readFames : MethodName := ⟨RX7, "readFames", "()V"⟩
abbrev cX7_readRoute : ByteArray := prog_9_method_19_code
def yX7_readRoute : MethodName := ⟨RX7, "readRoute", "()V"⟩
abbrev cX7_readLineOf : ByteArray := prog_9_method_20_code
def yX7_readLineOf : MethodName := ⟨RX7, "readLineOf", "(I)V"⟩
abbrev cX7_wasTold : ByteArray := prog_9_method_21_code
def yX7_wasTold : MethodName := ⟨RX7, "wasTold", "(I)Z"⟩
abbrev cX7_readLine : ByteArray := prog_9_method_22_code
def yX7_readLine : MethodName := ⟨RX7, "readLine", "()V"⟩
abbrev cX7_text : ByteArray := prog_9_method_23_code
def yX7_text : MethodName := ⟨RX7, "text", "()I"⟩
abbrev cX7_fault : ByteArray := prog_9_method_24_code
def yX7_fault : MethodName := ⟨RX7, "fault", "()I"⟩
abbrev cX7_isGlove : ByteArray := prog_9_method_25_code
def yX7_isGlove : MethodName := ⟨RX7, "isGlove", "(I)Z"⟩
abbrev cX7_isDoor : ByteArray := prog_9_method_26_code
def yX7_isDoor : MethodName := ⟨RX7, "isDoor", "(I)Z"⟩
abbrev cX7_isCall : ByteArray := prog_9_method_27_code
def yX7_isCall : MethodName := ⟨RX7, "isCall", "(I)Z"⟩
abbrev cX7_isPart : ByteArray := prog_9_method_28_code
def yX7_isPart : MethodName := ⟨RX7, "isPart", "(I)Z"⟩
abbrev cX7_starts : ByteArray := prog_9_method_29_code
def yX7_starts : MethodName := ⟨RX7, "starts", "()V"⟩
abbrev cX7_settles : ByteArray := prog_9_method_30_code
def yX7_settles : MethodName := ⟨RX7, "settles", "()V"⟩
abbrev cX7_of : ByteArray := prog_9_method_31_code
def yX7_of : MethodName := ⟨RX7, "of", "(II)I"⟩
abbrev cX7_becomesOf : ByteArray := prog_9_method_32_code
def yX7_becomesOf : MethodName := ⟨RX7, "becomesOf", "(III)V"⟩
abbrev cX7_isPaired : ByteArray := prog_9_method_33_code
def yX7_isPaired : MethodName := ⟨RX7, "isPaired", "(I)Z"⟩
abbrev cX7_isCold : ByteArray := prog_9_method_34_code
def yX7_isCold : MethodName := ⟨RX7, "isCold", "(I)Z"⟩
abbrev cX7_doorOf : ByteArray := prog_9_method_35_code
def yX7_doorOf : MethodName := ⟨RX7, "doorOf", "(I)I"⟩
abbrev cX7_apart : ByteArray := prog_9_method_36_code
def yX7_apart : MethodName := ⟨RX7, "apart", "(II)I"⟩
abbrev cX7_stepOf : ByteArray := prog_9_method_37_code
def yX7_stepOf : MethodName := ⟨RX7, "stepOf", "(I)I"⟩
abbrev cX7_gloveGoes : ByteArray := prog_9_method_38_code
def yX7_gloveGoes : MethodName := ⟨RX7, "gloveGoes", "(I)V"⟩
abbrev cX7_dayGoesAt : ByteArray := prog_9_method_39_code
def yX7_dayGoesAt : MethodName := ⟨RX7, "dayGoesAt", "(I)V"⟩
abbrev cX7_nextDoor : ByteArray := prog_9_method_40_code
def yX7_nextDoor : MethodName := ⟨RX7, "nextDoor", "()I"⟩
abbrev cX7_daysGo : ByteArray := prog_9_method_41_code
def yX7_daysGo : MethodName := ⟨RX7, "daysGo", "(I)V"⟩
abbrev cX7_nameMore : ByteArray := prog_9_method_42_code
def yX7_nameMore : MethodName := ⟨RX7, "nameMore", "()I"⟩
abbrev cX7_nameBehind : ByteArray := prog_9_method_43_code
def yX7_nameBehind : MethodName := ⟨RX7, "nameBehind", "(I)I"⟩
abbrev cX7_pairedNow : ByteArray := prog_9_method_44_code
def yX7_pairedNow : MethodName := ⟨RX7, "pairedNow", "()I"⟩
abbrev cX7_coldNow : ByteArray := prog_9_method_45_code
def yX7_coldNow : MethodName := ⟨RX7, "coldNow", "()I"⟩
abbrev cX7_metMany : ByteArray := prog_9_method_46_code
def yX7_metMany : MethodName := ⟨RX7, "metMany", "()I"⟩
abbrev cX7_metBehind : ByteArray := prog_9_method_47_code
def yX7_metBehind : MethodName := ⟨RX7, "metBehind", "(I)I"⟩
abbrev cX7_rule : ByteArray := prog_9_method_48_code
def yX7_rule : MethodName := ⟨RX7, "rule", "(I)I"⟩
abbrev cX7_glove : ByteArray := prog_9_method_49_code
def yX7_glove : MethodName := ⟨RX7, "glove", "(II)I"⟩
abbrev cX7_door : ByteArray := prog_9_method_50_code
def yX7_door : MethodName := ⟨RX7, "door", "(II)I"⟩
abbrev cX7_stop : ByteArray := prog_9_method_51_code
def yX7_stop : MethodName := ⟨RX7, "stop", "(I)I"⟩
abbrev cX7_becomes : ByteArray := prog_9_method_52_code
def yX7_becomes : MethodName := ⟨RX7, "becomes", "(II)I"⟩
abbrev cX7_wasPaired : ByteArray := prog_9_method_53_code
def yX7_wasPaired : MethodName := ⟨RX7, "wasPaired", "(I)Z"⟩
abbrev cX7_alter : ByteArray := prog_9_method_54_code
def yX7_alter : MethodName := ⟨RX7, "alter", "(III)I"⟩
abbrev cX7_fame : ByteArray := prog_9_method_55_code
def yX7_fame : MethodName := ⟨RX7, "fame", "(II)I"⟩
abbrev cX7_leave : ByteArray := prog_9_method_56_code
def yX7_leave : MethodName := ⟨RX7, "leave", "(I)I"⟩
abbrev cX7_go : ByteArray := prog_9_method_57_code
def yX7_go : MethodName := ⟨RX7, "go", "(I)I"⟩
abbrev cX7_call : ByteArray := prog_9_method_58_code
def yX7_call : MethodName := ⟨RX7, "call", "(I)I"⟩
abbrev cX7_cut : ByteArray := prog_9_method_59_code
def yX7_cut : MethodName := ⟨RX7, "cut", "(I)I"⟩
abbrev cX7_days : ByteArray := prog_9_method_60_code
def yX7_days : MethodName := ⟨RX7, "days", "(I)I"⟩
abbrev cX7_isFar : ByteArray := prog_9_method_61_code
def yX7_isFar : MethodName := ⟨RX7, "isFar", "(I)Z"⟩
abbrev cX7_runs : ByteArray := prog_9_method_62_code
def yX7_runs : MethodName := ⟨RX7, "runs", "(II)I"⟩
abbrev cX7_ahead : ByteArray := prog_9_method_63_code
def yX7_ahead : MethodName := ⟨RX7, "ahead", "(III)I"⟩
abbrev cX7_meets : ByteArray := prog_9_method_64_code
def yX7_meets : MethodName := ⟨RX7, "meets", "(I)I"⟩
abbrev cX7_startsJudging : ByteArray := prog_9_method_65_code
def yX7_startsJudging : MethodName := ⟨RX7, "startsJudging", "(I)V"⟩
abbrev cX7_judges : ByteArray := prog_9_method_66_code
def yX7_judges : MethodName := ⟨RX7, "judges", "(II)V"⟩
abbrev cX7_judged : ByteArray := prog_9_method_67_code
def yX7_judged : MethodName := ⟨RX7, "judged", "(I)I"⟩
abbrev cX7_place : ByteArray := prog_9_method_68_code
def yX7_place : MethodName := ⟨RX7, "place", "(III)I"⟩
abbrev cX7_extra : ByteArray := prog_9_method_69_code
def yX7_extra : MethodName := ⟨RX7, "extra", "(II)I"⟩
abbrev cX7_swap : ByteArray := prog_9_method_70_code
def yX7_swap : MethodName := ⟨RX7, "swap", "(II)I"⟩
abbrev cX7_shun : ByteArray := prog_9_method_71_code
def yX7_shun : MethodName := ⟨RX7, "shun", "(II)I"⟩
abbrev cX7_need : ByteArray := prog_9_method_72_code
def yX7_need : MethodName := ⟨RX7, "need", "(II)I"⟩
abbrev cX7_kind : ByteArray := prog_9_method_73_code
def yX7_kind : MethodName := ⟨RX7, "kind", "(III)I"⟩
abbrev cX7_drop : ByteArray := prog_9_method_74_code
def yX7_drop : MethodName := ⟨RX7, "drop", "(III)I"⟩
abbrev cX7_common : ByteArray := prog_9_method_75_code
def yX7_common : MethodName := ⟨RX7, "common", "(JJ)J"⟩
abbrev cX7_told : ByteArray := prog_9_method_76_code
def yX7_told : MethodName := ⟨RX7, "told", "(JJI)J"⟩
abbrev cX7_findOdds : ByteArray := prog_9_method_77_code
def yX7_findOdds : MethodName := ⟨RX7, "findOdds", "(III)V"⟩
abbrev cX7_luck : ByteArray := prog_9_method_78_code
def yX7_luck : MethodName := ⟨RX7, "luck", "(IIII)J"⟩
abbrev cX7_mean : ByteArray := prog_9_method_79_code
def yX7_mean : MethodName := ⟨RX7, "mean", "(III)J"⟩
abbrev cX7_see : ByteArray := prog_9_method_80_code
def yX7_see : MethodName := ⟨RX7, "see", "(III)I"⟩
abbrev cX7_forget : ByteArray := prog_9_method_81_code
def yX7_forget : MethodName := ⟨RX7, "forget", "(I)I"⟩
abbrev cX7_isSoWith : ByteArray := prog_9_method_82_code
def yX7_isSoWith : MethodName := ⟨RX7, "isSoWith", "(II)Z"⟩
abbrev cX7_which : ByteArray := prog_9_method_83_code
def yX7_which : MethodName := ⟨RX7, "which", "(II)I"⟩
abbrev cX7_kinds : ByteArray := prog_9_method_84_code
def yX7_kinds : MethodName := ⟨RX7, "kinds", "(I)I"⟩
abbrev cX7_doors : ByteArray := prog_9_method_85_code
def yX7_doors : MethodName := ⟨RX7, "doors", "(I)I"⟩
abbrev cX7_ask : ByteArray := prog_9_method_86_code
def yX7_ask : MethodName := ⟨RX7, "ask", "(II)I"⟩
abbrev cX7_drift : ByteArray := prog_9_method_87_code
def yX7_drift : MethodName := ⟨RX7, "drift", "(III)I"⟩
abbrev cX7_copies : ByteArray := prog_9_method_88_code
def yX7_copies : MethodName := ⟨RX7, "copies", "(II)V"⟩
abbrev cX7_keep : ByteArray := prog_9_method_89_code
def yX7_keep : MethodName := ⟨RX7, "keep", "(I)I"⟩
abbrev cX7_back : ByteArray := prog_9_method_90_code
def yX7_back : MethodName := ⟨RX7, "back", "(I)I"⟩
abbrev cX7_isSheet : ByteArray := prog_9_method_91_code
def yX7_isSheet : MethodName := ⟨RX7, "isSheet", "(II)Z"⟩
abbrev cX7_sheet : ByteArray := prog_9_method_92_code
def yX7_sheet : MethodName := ⟨RX7, "sheet", "(III)I"⟩
abbrev cX7_lay : ByteArray := prog_9_method_93_code
def yX7_lay : MethodName := ⟨RX7, "lay", "(III)I"⟩
abbrev cX7_read : ByteArray := prog_9_method_94_code
def yX7_read : MethodName := ⟨RX7, "read", "(IIII)I"⟩
abbrev cX7_torn : ByteArray := prog_9_method_95_code
def yX7_torn : MethodName := ⟨RX7, "torn", "()I"⟩
abbrev cX7_count : ByteArray := prog_9_method_96_code
def yX7_count : MethodName := ⟨RX7, "count", "(I)I"⟩
def RJ6 : String := "java/lang/Integer"
def TJ6 : u_T := fun k => match k with
  | _ => ("", "", "", false)
def tyJ6 : Nat → FieldType := fun k => match k with
  | _ => .int
abbrev cJ6_bitCount_0f7a4 : ByteArray := prog_10_method_49_code
def yJ6_bitCount_0f7a4 : MethodName := ⟨RJ6, "bitCount", "(I)I"⟩
def RJ9 : String := "java/lang/Math"
def TJ9 : u_T := fun k => match k with
  | _ => ("", "", "", false)
def tyJ9 : Nat → FieldType := fun k => match k with
  | _ => .int
abbrev cJ9_abs_0f7a4 : ByteArray := prog_11_method_59_code
def yJ9_abs_0f7a4 : MethodName := ⟨RJ9, "abs", "(I)I"⟩
abbrev cJ9_max_7cf53 : ByteArray := prog_11_method_65_code
def yJ9_max_7cf53 : MethodName := ⟨RJ9, "max", "(II)I"⟩
abbrev cJ9_max_f86c9 : ByteArray := prog_11_method_66_code
def yJ9_max_f86c9 : MethodName := ⟨RJ9, "max", "(JJ)J"⟩
abbrev cJ9_min_7cf53 : ByteArray := prog_11_method_69_code
def yJ9_min_7cf53 : MethodName := ⟨RJ9, "min", "(II)I"⟩
def RJ0 : String := "java/lang/String"
def TJ0 : u_T := fun k => match k with
  | _ => ("", "", "", false)
def tyJ0 : Nat → FieldType := fun k => match k with
  | _ => .int
abbrev cJ0_length_8abf5 : ByteArray := prog_12_method_54_code
def yJ0_length_8abf5 : MethodName := ⟨RJ0, "length", "()I"⟩
abbrev cJ0_charAt_5068e : ByteArray := prog_12_method_56_code
def yJ0_charAt_5068e : MethodName := ⟨RJ0, "charAt", "(I)C"⟩
abbrev cJ0_coder_7d493 : ByteArray := prog_12_method_152_code
def yJ0_coder_7d493 : MethodName := ⟨RJ0, "coder", "()B"⟩
abbrev cJ0_isLatin1_aae02 : ByteArray := prog_12_method_154_code
def yJ0_isLatin1_aae02 : MethodName := ⟨RJ0, "isLatin1", "()Z"⟩
abbrev cJ0_checkIndex_df160 : ByteArray := prog_12_method_155_code
def yJ0_checkIndex_df160 : MethodName := ⟨RJ0, "checkIndex", "(II)V"⟩
def RJ1 : String := "java/lang/StringLatin1"
def TJ1 : u_T := fun k => match k with
  | _ => ("", "", "", false)
def tyJ1 : Nat → FieldType := fun k => match k with
  | _ => .int
abbrev cJ1_charAt_3b067 : ByteArray := prog_13_method_2_code
def yJ1_charAt_3b067 : MethodName := ⟨RJ1, "charAt", "([BI)C"⟩
def RJ2 : String := "java/lang/StringUTF16"
def TJ2 : u_T := fun k => match k with
  | _ => ("", "", "", false)
def tyJ2 : Nat → FieldType := fun k => match k with
  | _ => .int
abbrev cJ2_getChar_3b067 : ByteArray := prog_14_method_5_code
def yJ2_getChar_3b067 : MethodName := ⟨RJ2, "getChar", "([BI)C"⟩
abbrev cJ2_length_9d52b : ByteArray := prog_14_method_6_code
def yJ2_length_9d52b : MethodName := ⟨RJ2, "length", "([B)I"⟩
abbrev cJ2_charAt_3b067 : ByteArray := prog_14_method_83_code
def yJ2_charAt_3b067 : MethodName := ⟨RJ2, "charAt", "([BI)C"⟩
abbrev cJ2_checkIndex_2214a : ByteArray := prog_14_method_91_code
def yJ2_checkIndex_2214a : MethodName := ⟨RJ2, "checkIndex", "(I[B)V"⟩
def RJ10 : String := "java/lang/System"
def TJ10 : u_T := fun k => match k with
  | _ => ("", "", "", false)
def tyJ10 : Nat → FieldType := fun k => match k with
  | _ => .int
def RJ7 : String := "java/util/Arrays"
def TJ7 : u_T := fun k => match k with
  | _ => ("", "", "", false)
def tyJ7 : Nat → FieldType := fun k => match k with
  | _ => .int
abbrev cJ7_fill_53178 : ByteArray := prog_16_method_103_code
def yJ7_fill_53178 : MethodName := ⟨RJ7, "fill", "([II)V"⟩
def RJ3 : String := "jdk/internal/util/Preconditions"
def TJ3 : u_T := fun k => match k with
  | _ => ("", "", "", false)
def tyJ3 : Nat → FieldType := fun k => match k with
  | _ => .int
abbrev cJ3_checkIndex_8e157 : ByteArray := prog_17_method_11_code
def yJ3_checkIndex_8e157 : MethodName := ⟨RJ3, "checkIndex", "(IILjava/util/function/BiFunction;)I"⟩
def RL : String := "GloveAboutLaw"
abbrev cL_law : ByteArray := code
def yL_law : MethodName := ⟨RL, "law", "([I)Z"⟩
end
section
theorem dX0_init_0 : decode cX0_init 0 = .ok (.aload_n 0, 1) := by decide +kernel
theorem dX0_init_1 : decode cX0_init 1 = .ok (.invokespecial 1, 3) := by decide +kernel
theorem dX0_init_4 : decode cX0_init 4 = .ok (.aload_n 0, 1) := by decide +kernel
theorem dX0_init_5 : decode cX0_init 5 = .ok (.new 7, 3) := by decide +kernel
theorem dX0_init_8 : decode cX0_init 8 = .ok (.dup, 1) := by decide +kernel
theorem dX0_init_9 : decode cX0_init 9 = .ok (.invokespecial 9, 3) := by decide +kernel
theorem dX0_init_12 : decode cX0_init 12 = .ok (.putfield 10, 3) := by decide +kernel
theorem dX0_init_15 : decode cX0_init 15 = .ok (.aload_n 0, 1) := by decide +kernel
theorem dX0_init_16 : decode cX0_init 16 = .ok (.new 16, 3) := by decide +kernel
theorem dX0_init_19 : decode cX0_init 19 = .ok (.dup, 1) := by decide +kernel
theorem dX0_init_20 : decode cX0_init 20 = .ok (.invokespecial 18, 3) := by decide +kernel
theorem dX0_init_23 : decode cX0_init 23 = .ok (.putfield 19, 3) := by decide +kernel
theorem dX0_init_26 : decode cX0_init 26 = .ok (.return_, 1) := by decide +kernel
theorem dX1_init_0 : decode cX1_init 0 = .ok (.aload_n 0, 1) := by decide +kernel
theorem dX1_init_1 : decode cX1_init 1 = .ok (.invokespecial 3, 3) := by decide +kernel
theorem dX1_init_4 : decode cX1_init 4 = .ok (.aload_n 0, 1) := by decide +kernel
theorem dX1_init_5 : decode cX1_init 5 = .ok (.bipush 40, 2) := by decide +kernel
theorem dX1_init_7 : decode cX1_init 7 = .ok (.newarray .int, 2) := by decide +kernel
theorem dX1_init_9 : decode cX1_init 9 = .ok (.putfield 9, 3) := by decide +kernel
theorem dX1_init_12 : decode cX1_init 12 = .ok (.aload_n 0, 1) := by decide +kernel
theorem dX1_init_13 : decode cX1_init 13 = .ok (.iconst (-1), 1) := by decide +kernel
theorem dX1_init_14 : decode cX1_init 14 = .ok (.putfield 15, 3) := by decide +kernel
theorem dX1_init_17 : decode cX1_init 17 = .ok (.return_, 1) := by decide +kernel
theorem dX1_makeNew_0 : decode cX1_makeNew 0 = .ok (.aload_n 0, 1) := by decide +kernel
theorem dX1_makeNew_1 : decode cX1_makeNew 1 = .ok (.getfield 9, 3) := by decide +kernel
theorem dX1_makeNew_4 : decode cX1_makeNew 4 = .ok (.iconst 0, 1) := by decide +kernel
theorem dX1_makeNew_5 : decode cX1_makeNew 5 = .ok (.invokestatic 19, 3) := by decide +kernel
theorem dX1_makeNew_8 : decode cX1_makeNew 8 = .ok (.aload_n 0, 1) := by decide +kernel
theorem dX1_makeNew_9 : decode cX1_makeNew 9 = .ok (.iload_n 1, 1) := by decide +kernel
theorem dX1_makeNew_10 : decode cX1_makeNew 10 = .ok (.putfield 15, 3) := by decide +kernel
theorem dX1_makeNew_13 : decode cX1_makeNew 13 = .ok (.aload_n 0, 1) := by decide +kernel
theorem dX1_makeNew_14 : decode cX1_makeNew 14 = .ok (.iload_n 2, 1) := by decide +kernel
theorem dX1_makeNew_15 : decode cX1_makeNew 15 = .ok (.putfield 25, 3) := by decide +kernel
theorem dX1_makeNew_18 : decode cX1_makeNew 18 = .ok (.return_, 1) := by decide +kernel
theorem dX1_isNothing_0 : decode cX1_isNothing 0 = .ok (.aload_n 0, 1) := by decide +kernel
theorem dX1_isNothing_1 : decode cX1_isNothing 1 = .ok (.getfield 15, 3) := by decide +kernel
theorem dX1_isNothing_4 : decode cX1_isNothing 4 = .ok (.iconst (-1), 1) := by decide +kernel
theorem dX1_isNothing_5 : decode cX1_isNothing 5 = .ok (.if_icmp .ne 7, 3) := by decide +kernel
theorem dX1_isNothing_8 : decode cX1_isNothing 8 = .ok (.iconst 1, 1) := by decide +kernel
theorem dX1_isNothing_9 : decode cX1_isNothing 9 = .ok (.goto 4, 3) := by decide +kernel
theorem dX1_isNothing_12 : decode cX1_isNothing 12 = .ok (.iconst 0, 1) := by decide +kernel
theorem dX1_isNothing_13 : decode cX1_isNothing 13 = .ok (.ireturn, 1) := by decide +kernel
theorem dX1_faultAt_0 : decode cX1_faultAt 0 = .ok (.aload_n 0, 1) := by decide +kernel
theorem dX1_faultAt_1 : decode cX1_faultAt 1 = .ok (.invokevirtual 28, 3) := by decide +kernel
theorem dX1_faultAt_4 : decode cX1_faultAt 4 = .ok (.ifCond .eq 5, 3) := by decide +kernel
theorem dX1_faultAt_7 : decode cX1_faultAt 7 = .ok (.iconst 1, 1) := by decide +kernel
theorem dX1_faultAt_8 : decode cX1_faultAt 8 = .ok (.ireturn, 1) := by decide +kernel
theorem dX1_faultAt_9 : decode cX1_faultAt 9 = .ok (.iload_n 1, 1) := by decide +kernel
theorem dX1_faultAt_10 : decode cX1_faultAt 10 = .ok (.aload_n 0, 1) := by decide +kernel
theorem dX1_faultAt_11 : decode cX1_faultAt 11 = .ok (.getfield 25, 3) := by decide +kernel
theorem dX1_faultAt_14 : decode cX1_faultAt 14 = .ok (.iconst 1, 1) := by decide +kernel
theorem dX1_faultAt_15 : decode cX1_faultAt 15 = .ok (.isub, 1) := by decide +kernel
theorem dX1_faultAt_16 : decode cX1_faultAt 16 = .ok (.invokestatic 32, 3) := by decide +kernel
theorem dX1_faultAt_19 : decode cX1_faultAt 19 = .ok (.ifCond .eq 7, 3) := by decide +kernel
theorem dX1_faultAt_22 : decode cX1_faultAt 22 = .ok (.iconst 0, 1) := by decide +kernel
theorem dX1_faultAt_23 : decode cX1_faultAt 23 = .ok (.goto 4, 3) := by decide +kernel
theorem dX1_faultAt_26 : decode cX1_faultAt 26 = .ok (.iconst 2, 1) := by decide +kernel
theorem dX1_faultAt_27 : decode cX1_faultAt 27 = .ok (.ireturn, 1) := by decide +kernel
theorem dX1_faultAtPair_0 : decode cX1_faultAtPair 0 = .ok (.aload_n 0, 1) := by decide +kernel
theorem dX1_faultAtPair_1 : decode cX1_faultAtPair 1 = .ok (.invokevirtual 28, 3) := by decide +kernel
theorem dX1_faultAtPair_4 : decode cX1_faultAtPair 4 = .ok (.ifCond .ne 13, 3) := by decide +kernel
theorem dX1_faultAtPair_7 : decode cX1_faultAtPair 7 = .ok (.aload_n 0, 1) := by decide +kernel
theorem dX1_faultAtPair_8 : decode cX1_faultAtPair 8 = .ok (.getfield 15, 3) := by decide +kernel
theorem dX1_faultAtPair_11 : decode cX1_faultAtPair 11 = .ok (.iload_n 1, 1) := by decide +kernel
theorem dX1_faultAtPair_12 : decode cX1_faultAtPair 12 = .ok (.if_icmp .eq 5, 3) := by decide +kernel
theorem dX1_faultAtPair_15 : decode cX1_faultAtPair 15 = .ok (.iconst 3, 1) := by decide +kernel
theorem dX1_faultAtPair_16 : decode cX1_faultAtPair 16 = .ok (.ireturn, 1) := by decide +kernel
theorem dX1_faultAtPair_17 : decode cX1_faultAtPair 17 = .ok (.aload_n 0, 1) := by decide +kernel
theorem dX1_faultAtPair_18 : decode cX1_faultAtPair 18 = .ok (.iload_n 2, 1) := by decide +kernel
theorem dX1_faultAtPair_19 : decode cX1_faultAtPair 19 = .ok (.invokevirtual 36, 3) := by decide +kernel
theorem dX1_faultAtPair_22 : decode cX1_faultAtPair 22 = .ok (.istore_n 3, 1) := by decide +kernel
theorem dX1_faultAtPair_23 : decode cX1_faultAtPair 23 = .ok (.iload_n 3, 1) := by decide +kernel
theorem dX1_faultAtPair_24 : decode cX1_faultAtPair 24 = .ok (.ifCond .eq 7, 3) := by decide +kernel
theorem dX1_faultAtPair_27 : decode cX1_faultAtPair 27 = .ok (.iload_n 3, 1) := by decide +kernel
theorem dX1_faultAtPair_28 : decode cX1_faultAtPair 28 = .ok (.goto 10, 3) := by decide +kernel
theorem dX1_faultAtPair_31 : decode cX1_faultAtPair 31 = .ok (.aload_n 0, 1) := by decide +kernel
theorem dX1_faultAtPair_32 : decode cX1_faultAtPair 32 = .ok (.iload_n 2, 1) := by decide +kernel
theorem dX1_faultAtPair_33 : decode cX1_faultAtPair 33 = .ok (.iconst 1, 1) := by decide +kernel
theorem dX1_faultAtPair_34 : decode cX1_faultAtPair 34 = .ok (.iadd, 1) := by decide +kernel
theorem dX1_faultAtPair_35 : decode cX1_faultAtPair 35 = .ok (.invokevirtual 36, 3) := by decide +kernel
theorem dX1_faultAtPair_38 : decode cX1_faultAtPair 38 = .ok (.ireturn, 1) := by decide +kernel
theorem dX1_lowestBits_0 : decode cX1_lowestBits 0 = .ok (.aload_n 0, 1) := by decide +kernel
theorem dX1_lowestBits_1 : decode cX1_lowestBits 1 = .ok (.getfield 15, 3) := by decide +kernel
theorem dX1_lowestBits_4 : decode cX1_lowestBits 4 = .ok (.lookupswitch 34 #[(0, 28), (1, 31)], 28) := by decide +kernel
theorem dX1_lowestBits_32 : decode cX1_lowestBits 32 = .ok (.iload_n 1, 1) := by decide +kernel
theorem dX1_lowestBits_33 : decode cX1_lowestBits 33 = .ok (.i2b, 1) := by decide +kernel
theorem dX1_lowestBits_34 : decode cX1_lowestBits 34 = .ok (.ireturn, 1) := by decide +kernel
theorem dX1_lowestBits_35 : decode cX1_lowestBits 35 = .ok (.iload_n 1, 1) := by decide +kernel
theorem dX1_lowestBits_36 : decode cX1_lowestBits 36 = .ok (.i2s, 1) := by decide +kernel
theorem dX1_lowestBits_37 : decode cX1_lowestBits 37 = .ok (.ireturn, 1) := by decide +kernel
theorem dX1_lowestBits_38 : decode cX1_lowestBits 38 = .ok (.iload_n 1, 1) := by decide +kernel
theorem dX1_lowestBits_39 : decode cX1_lowestBits 39 = .ok (.ireturn, 1) := by decide +kernel
theorem dX2_init_0 : decode cX2_init 0 = .ok (.aload_n 0, 1) := by decide +kernel
theorem dX2_init_1 : decode cX2_init 1 = .ok (.invokespecial 3, 3) := by decide +kernel
theorem dX2_init_4 : decode cX2_init 4 = .ok (.aload_n 0, 1) := by decide +kernel
theorem dX2_init_5 : decode cX2_init 5 = .ok (.bipush 6, 2) := by decide +kernel
theorem dX2_init_7 : decode cX2_init 7 = .ok (.newarray .int, 2) := by decide +kernel
theorem dX2_init_9 : decode cX2_init 9 = .ok (.putfield 9, 3) := by decide +kernel
theorem dX2_init_12 : decode cX2_init 12 = .ok (.aload_n 0, 1) := by decide +kernel
theorem dX2_init_13 : decode cX2_init 13 = .ok (.bipush 6, 2) := by decide +kernel
theorem dX2_init_15 : decode cX2_init 15 = .ok (.newarray .int, 2) := by decide +kernel
theorem dX2_init_17 : decode cX2_init 17 = .ok (.putfield 15, 3) := by decide +kernel
theorem dX2_init_20 : decode cX2_init 20 = .ok (.aload_n 0, 1) := by decide +kernel
theorem dX2_init_21 : decode cX2_init 21 = .ok (.bipush 6, 2) := by decide +kernel
theorem dX2_init_23 : decode cX2_init 23 = .ok (.newarray .int, 2) := by decide +kernel
theorem dX2_init_25 : decode cX2_init 25 = .ok (.putfield 18, 3) := by decide +kernel
theorem dX2_init_28 : decode cX2_init 28 = .ok (.return_, 1) := by decide +kernel
theorem dX2_become_0 : decode cX2_become 0 = .ok (.aload_n 1, 1) := by decide +kernel
theorem dX2_become_1 : decode cX2_become 1 = .ok (.getfield 9, 3) := by decide +kernel
theorem dX2_become_4 : decode cX2_become 4 = .ok (.iconst 0, 1) := by decide +kernel
theorem dX2_become_5 : decode cX2_become 5 = .ok (.aload_n 0, 1) := by decide +kernel
theorem dX2_become_6 : decode cX2_become 6 = .ok (.getfield 9, 3) := by decide +kernel
theorem dX2_become_9 : decode cX2_become 9 = .ok (.iconst 0, 1) := by decide +kernel
theorem dX2_become_10 : decode cX2_become 10 = .ok (.bipush 6, 2) := by decide +kernel
theorem dX2_become_12 : decode cX2_become 12 = .ok (.invokestatic 21, 3) := by decide +kernel
theorem dX2_become_15 : decode cX2_become 15 = .ok (.aload_n 1, 1) := by decide +kernel
theorem dX2_become_16 : decode cX2_become 16 = .ok (.getfield 15, 3) := by decide +kernel
theorem dX2_become_19 : decode cX2_become 19 = .ok (.iconst 0, 1) := by decide +kernel
theorem dX2_become_20 : decode cX2_become 20 = .ok (.aload_n 0, 1) := by decide +kernel
theorem dX2_become_21 : decode cX2_become 21 = .ok (.getfield 15, 3) := by decide +kernel
theorem dX2_become_24 : decode cX2_become 24 = .ok (.iconst 0, 1) := by decide +kernel
theorem dX2_become_25 : decode cX2_become 25 = .ok (.bipush 6, 2) := by decide +kernel
theorem dX2_become_27 : decode cX2_become 27 = .ok (.invokestatic 21, 3) := by decide +kernel
theorem dX2_become_30 : decode cX2_become 30 = .ok (.aload_n 1, 1) := by decide +kernel
theorem dX2_become_31 : decode cX2_become 31 = .ok (.getfield 18, 3) := by decide +kernel
theorem dX2_become_34 : decode cX2_become 34 = .ok (.iconst 0, 1) := by decide +kernel
theorem dX2_become_35 : decode cX2_become 35 = .ok (.aload_n 0, 1) := by decide +kernel
theorem dX2_become_36 : decode cX2_become 36 = .ok (.getfield 18, 3) := by decide +kernel
theorem dX2_become_39 : decode cX2_become 39 = .ok (.iconst 0, 1) := by decide +kernel
theorem dX2_become_40 : decode cX2_become 40 = .ok (.bipush 6, 2) := by decide +kernel
theorem dX2_become_42 : decode cX2_become 42 = .ok (.invokestatic 21, 3) := by decide +kernel
theorem dX2_become_45 : decode cX2_become 45 = .ok (.aload_n 0, 1) := by decide +kernel
theorem dX2_become_46 : decode cX2_become 46 = .ok (.aload_n 1, 1) := by decide +kernel
theorem dX2_become_47 : decode cX2_become 47 = .ok (.getfield 27, 3) := by decide +kernel
theorem dX2_become_50 : decode cX2_become 50 = .ok (.putfield 27, 3) := by decide +kernel
theorem dX2_become_53 : decode cX2_become 53 = .ok (.return_, 1) := by decide +kernel
theorem dX2_add_0 : decode cX2_add 0 = .ok (.aload_n 0, 1) := by decide +kernel
theorem dX2_add_1 : decode cX2_add 1 = .ok (.getfield 9, 3) := by decide +kernel
theorem dX2_add_4 : decode cX2_add 4 = .ok (.aload_n 0, 1) := by decide +kernel
theorem dX2_add_5 : decode cX2_add 5 = .ok (.getfield 27, 3) := by decide +kernel
theorem dX2_add_8 : decode cX2_add 8 = .ok (.iload_n 1, 1) := by decide +kernel
theorem dX2_add_9 : decode cX2_add 9 = .ok (.iastore, 1) := by decide +kernel
theorem dX2_add_10 : decode cX2_add 10 = .ok (.aload_n 0, 1) := by decide +kernel
theorem dX2_add_11 : decode cX2_add 11 = .ok (.getfield 15, 3) := by decide +kernel
theorem dX2_add_14 : decode cX2_add 14 = .ok (.aload_n 0, 1) := by decide +kernel
theorem dX2_add_15 : decode cX2_add 15 = .ok (.getfield 27, 3) := by decide +kernel
theorem dX2_add_18 : decode cX2_add 18 = .ok (.iload_n 2, 1) := by decide +kernel
theorem dX2_add_19 : decode cX2_add 19 = .ok (.iastore, 1) := by decide +kernel
theorem dX2_add_20 : decode cX2_add 20 = .ok (.aload_n 0, 1) := by decide +kernel
theorem dX2_add_21 : decode cX2_add 21 = .ok (.getfield 18, 3) := by decide +kernel
theorem dX2_add_24 : decode cX2_add 24 = .ok (.aload_n 0, 1) := by decide +kernel
theorem dX2_add_25 : decode cX2_add 25 = .ok (.getfield 27, 3) := by decide +kernel
theorem dX2_add_28 : decode cX2_add 28 = .ok (.iload_n 3, 1) := by decide +kernel
theorem dX2_add_29 : decode cX2_add 29 = .ok (.iastore, 1) := by decide +kernel
theorem dX2_add_30 : decode cX2_add 30 = .ok (.aload_n 0, 1) := by decide +kernel
theorem dX2_add_31 : decode cX2_add 31 = .ok (.dup, 1) := by decide +kernel
theorem dX2_add_32 : decode cX2_add 32 = .ok (.getfield 27, 3) := by decide +kernel
theorem dX2_add_35 : decode cX2_add 35 = .ok (.iconst 1, 1) := by decide +kernel
theorem dX2_add_36 : decode cX2_add 36 = .ok (.iadd, 1) := by decide +kernel
theorem dX2_add_37 : decode cX2_add 37 = .ok (.putfield 27, 3) := by decide +kernel
theorem dX2_add_40 : decode cX2_add 40 = .ok (.return_, 1) := by decide +kernel
theorem dX2_lastDay_0 : decode cX2_lastDay 0 = .ok (.iconst (-1), 1) := by decide +kernel
theorem dX2_lastDay_1 : decode cX2_lastDay 1 = .ok (.istore_n 1, 1) := by decide +kernel
theorem dX2_lastDay_2 : decode cX2_lastDay 2 = .ok (.iconst 0, 1) := by decide +kernel
theorem dX2_lastDay_3 : decode cX2_lastDay 3 = .ok (.istore_n 2, 1) := by decide +kernel
theorem dX2_lastDay_4 : decode cX2_lastDay 4 = .ok (.iload_n 2, 1) := by decide +kernel
theorem dX2_lastDay_5 : decode cX2_lastDay 5 = .ok (.aload_n 0, 1) := by decide +kernel
theorem dX2_lastDay_6 : decode cX2_lastDay 6 = .ok (.getfield 27, 3) := by decide +kernel
theorem dX2_lastDay_9 : decode cX2_lastDay 9 = .ok (.if_icmp .ge 20, 3) := by decide +kernel
theorem dX2_lastDay_12 : decode cX2_lastDay 12 = .ok (.iload_n 1, 1) := by decide +kernel
theorem dX2_lastDay_13 : decode cX2_lastDay 13 = .ok (.aload_n 0, 1) := by decide +kernel
theorem dX2_lastDay_14 : decode cX2_lastDay 14 = .ok (.getfield 9, 3) := by decide +kernel
theorem dX2_lastDay_17 : decode cX2_lastDay 17 = .ok (.iload_n 2, 1) := by decide +kernel
theorem dX2_lastDay_18 : decode cX2_lastDay 18 = .ok (.iaload, 1) := by decide +kernel
theorem dX2_lastDay_19 : decode cX2_lastDay 19 = .ok (.invokestatic 31, 3) := by decide +kernel
theorem dX2_lastDay_22 : decode cX2_lastDay 22 = .ok (.istore_n 1, 1) := by decide +kernel
theorem dX2_lastDay_23 : decode cX2_lastDay 23 = .ok (.iinc 2 1, 3) := by decide +kernel
theorem dX2_lastDay_26 : decode cX2_lastDay 26 = .ok (.goto (-22), 3) := by decide +kernel
theorem dX2_lastDay_29 : decode cX2_lastDay 29 = .ok (.iload_n 1, 1) := by decide +kernel
theorem dX2_lastDay_30 : decode cX2_lastDay 30 = .ok (.ireturn, 1) := by decide +kernel
theorem dX2_fits_0 : decode cX2_fits 0 = .ok (.iconst 0, 1) := by decide +kernel
theorem dX2_fits_1 : decode cX2_fits 1 = .ok (.istore_n 3, 1) := by decide +kernel
theorem dX2_fits_2 : decode cX2_fits 2 = .ok (.iload_n 3, 1) := by decide +kernel
theorem dX2_fits_3 : decode cX2_fits 3 = .ok (.aload_n 0, 1) := by decide +kernel
theorem dX2_fits_4 : decode cX2_fits 4 = .ok (.getfield 27, 3) := by decide +kernel
theorem dX2_fits_7 : decode cX2_fits 7 = .ok (.if_icmp .ge 41, 3) := by decide +kernel
theorem dX2_fits_10 : decode cX2_fits 10 = .ok (.aload_n 0, 1) := by decide +kernel
theorem dX2_fits_11 : decode cX2_fits 11 = .ok (.getfield 9, 3) := by decide +kernel
theorem dX2_fits_14 : decode cX2_fits 14 = .ok (.iload_n 3, 1) := by decide +kernel
theorem dX2_fits_15 : decode cX2_fits 15 = .ok (.iaload, 1) := by decide +kernel
theorem dX2_fits_16 : decode cX2_fits 16 = .ok (.iload_n 1, 1) := by decide +kernel
theorem dX2_fits_17 : decode cX2_fits 17 = .ok (.if_icmp .ne 25, 3) := by decide +kernel
theorem dX2_fits_20 : decode cX2_fits 20 = .ok (.aload_n 2, 1) := by decide +kernel
theorem dX2_fits_21 : decode cX2_fits 21 = .ok (.getfield 37, 3) := by decide +kernel
theorem dX2_fits_24 : decode cX2_fits 24 = .ok (.aload_n 0, 1) := by decide +kernel
theorem dX2_fits_25 : decode cX2_fits 25 = .ok (.getfield 15, 3) := by decide +kernel
theorem dX2_fits_28 : decode cX2_fits 28 = .ok (.iload_n 3, 1) := by decide +kernel
theorem dX2_fits_29 : decode cX2_fits 29 = .ok (.iaload, 1) := by decide +kernel
theorem dX2_fits_30 : decode cX2_fits 30 = .ok (.iaload, 1) := by decide +kernel
theorem dX2_fits_31 : decode cX2_fits 31 = .ok (.aload_n 0, 1) := by decide +kernel
theorem dX2_fits_32 : decode cX2_fits 32 = .ok (.getfield 18, 3) := by decide +kernel
theorem dX2_fits_35 : decode cX2_fits 35 = .ok (.iload_n 3, 1) := by decide +kernel
theorem dX2_fits_36 : decode cX2_fits 36 = .ok (.iaload, 1) := by decide +kernel
theorem dX2_fits_37 : decode cX2_fits 37 = .ok (.if_icmp .eq 5, 3) := by decide +kernel
theorem dX2_fits_40 : decode cX2_fits 40 = .ok (.iconst 0, 1) := by decide +kernel
theorem dX2_fits_41 : decode cX2_fits 41 = .ok (.ireturn, 1) := by decide +kernel
theorem dX2_fits_42 : decode cX2_fits 42 = .ok (.iinc 3 1, 3) := by decide +kernel
theorem dX2_fits_45 : decode cX2_fits 45 = .ok (.goto (-43), 3) := by decide +kernel
theorem dX2_fits_48 : decode cX2_fits 48 = .ok (.iconst 1, 1) := by decide +kernel
theorem dX2_fits_49 : decode cX2_fits 49 = .ok (.ireturn, 1) := by decide +kernel
theorem dX3_init_0 : decode cX3_init 0 = .ok (.aload_n 0, 1) := by decide +kernel
theorem dX3_init_1 : decode cX3_init 1 = .ok (.invokespecial 3, 3) := by decide +kernel
theorem dX3_init_4 : decode cX3_init 4 = .ok (.aload_n 0, 1) := by decide +kernel
theorem dX3_init_5 : decode cX3_init 5 = .ok (.sipush 160, 3) := by decide +kernel
theorem dX3_init_8 : decode cX3_init 8 = .ok (.newarray .byte, 2) := by decide +kernel
theorem dX3_init_10 : decode cX3_init 10 = .ok (.putfield 9, 3) := by decide +kernel
theorem dX3_init_13 : decode cX3_init 13 = .ok (.return_, 1) := by decide +kernel
theorem dX4_init_0 : decode cX4_init 0 = .ok (.aload_n 0, 1) := by decide +kernel
theorem dX4_init_1 : decode cX4_init 1 = .ok (.invokespecial 3, 3) := by decide +kernel
theorem dX4_init_4 : decode cX4_init 4 = .ok (.aload_n 0, 1) := by decide +kernel
theorem dX4_init_5 : decode cX4_init 5 = .ok (.aload_n 1, 1) := by decide +kernel
theorem dX4_init_6 : decode cX4_init 6 = .ok (.putfield 9, 3) := by decide +kernel
theorem dX4_init_9 : decode cX4_init 9 = .ok (.aload_n 0, 1) := by decide +kernel
theorem dX4_init_10 : decode cX4_init 10 = .ok (.aload_n 2, 1) := by decide +kernel
theorem dX4_init_11 : decode cX4_init 11 = .ok (.putfield 15, 3) := by decide +kernel
theorem dX4_init_14 : decode cX4_init 14 = .ok (.return_, 1) := by decide +kernel
theorem dX4_takesAll_0 : decode cX4_takesAll 0 = .ok (.aload_n 0, 1) := by decide +kernel
theorem dX4_takesAll_1 : decode cX4_takesAll 1 = .ok (.getfield 15, 3) := by decide +kernel
theorem dX4_takesAll_4 : decode cX4_takesAll 4 = .ok (.invokevirtual 19, 3) := by decide +kernel
theorem dX4_takesAll_7 : decode cX4_takesAll 7 = .ok (.aload_n 0, 1) := by decide +kernel
theorem dX4_takesAll_8 : decode cX4_takesAll 8 = .ok (.iconst 0, 1) := by decide +kernel
theorem dX4_takesAll_9 : decode cX4_takesAll 9 = .ok (.putfield 24, 3) := by decide +kernel
theorem dX4_takesAll_12 : decode cX4_takesAll 12 = .ok (.aload_n 0, 1) := by decide +kernel
theorem dX4_takesAll_13 : decode cX4_takesAll 13 = .ok (.iconst 0, 1) := by decide +kernel
theorem dX4_takesAll_14 : decode cX4_takesAll 14 = .ok (.putfield 28, 3) := by decide +kernel
theorem dX4_takesAll_17 : decode cX4_takesAll 17 = .ok (.aload_n 0, 1) := by decide +kernel
theorem dX4_takesAll_18 : decode cX4_takesAll 18 = .ok (.iconst 0, 1) := by decide +kernel
theorem dX4_takesAll_19 : decode cX4_takesAll 19 = .ok (.putfield 31, 3) := by decide +kernel
theorem dX4_takesAll_22 : decode cX4_takesAll 22 = .ok (.aload_n 0, 1) := by decide +kernel
theorem dX4_takesAll_23 : decode cX4_takesAll 23 = .ok (.iconst 0, 1) := by decide +kernel
theorem dX4_takesAll_24 : decode cX4_takesAll 24 = .ok (.putfield 34, 3) := by decide +kernel
theorem dX4_takesAll_27 : decode cX4_takesAll 27 = .ok (.aload_n 0, 1) := by decide +kernel
theorem dX4_takesAll_28 : decode cX4_takesAll 28 = .ok (.getfield 34, 3) := by decide +kernel
theorem dX4_takesAll_31 : decode cX4_takesAll 31 = .ok (.sipush 160, 3) := by decide +kernel
theorem dX4_takesAll_34 : decode cX4_takesAll 34 = .ok (.if_icmp .gt 43, 3) := by decide +kernel
theorem dX4_takesAll_37 : decode cX4_takesAll 37 = .ok (.aload_n 0, 1) := by decide +kernel
theorem dX4_takesAll_38 : decode cX4_takesAll 38 = .ok (.invokevirtual 37, 3) := by decide +kernel
theorem dX4_takesAll_41 : decode cX4_takesAll 41 = .ok (.ifCond .ne 5, 3) := by decide +kernel
theorem dX4_takesAll_44 : decode cX4_takesAll 44 = .ok (.iconst 0, 1) := by decide +kernel
theorem dX4_takesAll_45 : decode cX4_takesAll 45 = .ok (.ireturn, 1) := by decide +kernel
theorem dX4_takesAll_46 : decode cX4_takesAll 46 = .ok (.aload_n 0, 1) := by decide +kernel
theorem dX4_takesAll_47 : decode cX4_takesAll 47 = .ok (.getfield 41, 3) := by decide +kernel
theorem dX4_takesAll_50 : decode cX4_takesAll 50 = .ok (.ifCond .ne 5, 3) := by decide +kernel
theorem dX4_takesAll_53 : decode cX4_takesAll 53 = .ok (.iconst 1, 1) := by decide +kernel
theorem dX4_takesAll_54 : decode cX4_takesAll 54 = .ok (.ireturn, 1) := by decide +kernel
theorem dX4_takesAll_55 : decode cX4_takesAll 55 = .ok (.aload_n 0, 1) := by decide +kernel
theorem dX4_takesAll_56 : decode cX4_takesAll 56 = .ok (.invokevirtual 44, 3) := by decide +kernel
theorem dX4_takesAll_59 : decode cX4_takesAll 59 = .ok (.ifCond .ne 5, 3) := by decide +kernel
theorem dX4_takesAll_62 : decode cX4_takesAll 62 = .ok (.iconst 0, 1) := by decide +kernel
theorem dX4_takesAll_63 : decode cX4_takesAll 63 = .ok (.ireturn, 1) := by decide +kernel
theorem dX4_takesAll_64 : decode cX4_takesAll 64 = .ok (.aload_n 0, 1) := by decide +kernel
theorem dX4_takesAll_65 : decode cX4_takesAll 65 = .ok (.dup, 1) := by decide +kernel
theorem dX4_takesAll_66 : decode cX4_takesAll 66 = .ok (.getfield 34, 3) := by decide +kernel
theorem dX4_takesAll_69 : decode cX4_takesAll 69 = .ok (.iconst 1, 1) := by decide +kernel
theorem dX4_takesAll_70 : decode cX4_takesAll 70 = .ok (.iadd, 1) := by decide +kernel
theorem dX4_takesAll_71 : decode cX4_takesAll 71 = .ok (.putfield 34, 3) := by decide +kernel
theorem dX4_takesAll_74 : decode cX4_takesAll 74 = .ok (.goto (-47), 3) := by decide +kernel
theorem dX4_takesAll_77 : decode cX4_takesAll 77 = .ok (.iconst 1, 1) := by decide +kernel
theorem dX4_takesAll_78 : decode cX4_takesAll 78 = .ok (.ireturn, 1) := by decide +kernel
theorem dX4_refuses_0 : decode cX4_refuses 0 = .ok (.aload_n 0, 1) := by decide +kernel
theorem dX4_refuses_1 : decode cX4_refuses 1 = .ok (.iload_n 1, 1) := by decide +kernel
theorem dX4_refuses_2 : decode cX4_refuses 2 = .ok (.putfield 31, 3) := by decide +kernel
theorem dX4_refuses_5 : decode cX4_refuses 5 = .ok (.iconst 0, 1) := by decide +kernel
theorem dX4_refuses_6 : decode cX4_refuses 6 = .ok (.ireturn, 1) := by decide +kernel
theorem dX4_takesLine_0 : decode cX4_takesLine 0 = .ok (.aload_n 0, 1) := by decide +kernel
theorem dX4_takesLine_1 : decode cX4_takesLine 1 = .ok (.getfield 41, 3) := by decide +kernel
theorem dX4_takesLine_4 : decode cX4_takesLine 4 = .ok (.iconst 1, 1) := by decide +kernel
theorem dX4_takesLine_5 : decode cX4_takesLine 5 = .ok (.if_icmp .ne 10, 3) := by decide +kernel
theorem dX4_takesLine_8 : decode cX4_takesLine 8 = .ok (.aload_n 0, 1) := by decide +kernel
theorem dX4_takesLine_9 : decode cX4_takesLine 9 = .ok (.invokevirtual 47, 3) := by decide +kernel
theorem dX4_takesLine_12 : decode cX4_takesLine 12 = .ok (.goto 5, 3) := by decide +kernel
theorem dX4_takesLine_15 : decode cX4_takesLine 15 = .ok (.bipush 7, 2) := by decide +kernel
theorem dX4_takesLine_17 : decode cX4_takesLine 17 = .ok (.istore_n 1, 1) := by decide +kernel
theorem dX4_takesLine_18 : decode cX4_takesLine 18 = .ok (.iload_n 1, 1) := by decide +kernel
theorem dX4_takesLine_19 : decode cX4_takesLine 19 = .ok (.bipush 7, 2) := by decide +kernel
theorem dX4_takesLine_21 : decode cX4_takesLine 21 = .ok (.if_icmp .lt 9, 3) := by decide +kernel
theorem dX4_takesLine_24 : decode cX4_takesLine 24 = .ok (.aload_n 0, 1) := by decide +kernel
theorem dX4_takesLine_25 : decode cX4_takesLine 25 = .ok (.iconst 2, 1) := by decide +kernel
theorem dX4_takesLine_26 : decode cX4_takesLine 26 = .ok (.invokevirtual 51, 3) := by decide +kernel
theorem dX4_takesLine_29 : decode cX4_takesLine 29 = .ok (.ireturn, 1) := by decide +kernel
theorem dX4_takesLine_30 : decode cX4_takesLine 30 = .ok (.iload_n 1, 1) := by decide +kernel
theorem dX4_takesLine_31 : decode cX4_takesLine 31 = .ok (.iconst 4, 1) := by decide +kernel
theorem dX4_takesLine_32 : decode cX4_takesLine 32 = .ok (.if_icmp .ge 9, 3) := by decide +kernel
theorem dX4_takesLine_35 : decode cX4_takesLine 35 = .ok (.aload_n 0, 1) := by decide +kernel
theorem dX4_takesLine_36 : decode cX4_takesLine 36 = .ok (.iload_n 1, 1) := by decide +kernel
theorem dX4_takesLine_37 : decode cX4_takesLine 37 = .ok (.invokevirtual 55, 3) := by decide +kernel
theorem dX4_takesLine_40 : decode cX4_takesLine 40 = .ok (.ireturn, 1) := by decide +kernel
theorem dX4_takesLine_41 : decode cX4_takesLine 41 = .ok (.aload_n 0, 1) := by decide +kernel
theorem dX4_takesLine_42 : decode cX4_takesLine 42 = .ok (.getfield 28, 3) := by decide +kernel
theorem dX4_takesLine_45 : decode cX4_takesLine 45 = .ok (.iload_n 1, 1) := by decide +kernel
theorem dX4_takesLine_46 : decode cX4_takesLine 46 = .ok (.ishr, 1) := by decide +kernel
theorem dX4_takesLine_47 : decode cX4_takesLine 47 = .ok (.iconst 1, 1) := by decide +kernel
theorem dX4_takesLine_48 : decode cX4_takesLine 48 = .ok (.iand, 1) := by decide +kernel
theorem dX4_takesLine_49 : decode cX4_takesLine 49 = .ok (.iconst 1, 1) := by decide +kernel
theorem dX4_takesLine_50 : decode cX4_takesLine 50 = .ok (.if_icmp .ne 9, 3) := by decide +kernel
theorem dX4_takesLine_53 : decode cX4_takesLine 53 = .ok (.aload_n 0, 1) := by decide +kernel
theorem dX4_takesLine_54 : decode cX4_takesLine 54 = .ok (.iconst 4, 1) := by decide +kernel
theorem dX4_takesLine_55 : decode cX4_takesLine 55 = .ok (.invokevirtual 51, 3) := by decide +kernel
theorem dX4_takesLine_58 : decode cX4_takesLine 58 = .ok (.ireturn, 1) := by decide +kernel
theorem dX4_takesLine_59 : decode cX4_takesLine 59 = .ok (.aload_n 0, 1) := by decide +kernel
theorem dX4_takesLine_60 : decode cX4_takesLine 60 = .ok (.dup, 1) := by decide +kernel
theorem dX4_takesLine_61 : decode cX4_takesLine 61 = .ok (.getfield 28, 3) := by decide +kernel
theorem dX4_takesLine_64 : decode cX4_takesLine 64 = .ok (.iconst 1, 1) := by decide +kernel
theorem dX4_takesLine_65 : decode cX4_takesLine 65 = .ok (.iload_n 1, 1) := by decide +kernel
theorem dX4_takesLine_66 : decode cX4_takesLine 66 = .ok (.ishl, 1) := by decide +kernel
theorem dX4_takesLine_67 : decode cX4_takesLine 67 = .ok (.ior, 1) := by decide +kernel
theorem dX4_takesLine_68 : decode cX4_takesLine 68 = .ok (.putfield 28, 3) := by decide +kernel
theorem dX4_takesLine_71 : decode cX4_takesLine 71 = .ok (.iload_n 1, 1) := by decide +kernel
theorem dX4_takesLine_72 : decode cX4_takesLine 72 = .ok (.lookupswitch 47 #[(4, 28), (5, 42)], 28) := by decide +kernel
theorem dX4_takesLine_100 : decode cX4_takesLine 100 = .ok (.aload_n 0, 1) := by decide +kernel
theorem dX4_takesLine_101 : decode cX4_takesLine 101 = .ok (.aload_n 0, 1) := by decide +kernel
theorem dX4_takesLine_102 : decode cX4_takesLine 102 = .ok (.getfield 15, 3) := by decide +kernel
theorem dX4_takesLine_105 : decode cX4_takesLine 105 = .ok (.getfield 58, 3) := by decide +kernel
theorem dX4_takesLine_108 : decode cX4_takesLine 108 = .ok (.bipush 9, 2) := by decide +kernel
theorem dX4_takesLine_110 : decode cX4_takesLine 110 = .ok (.invokevirtual 62, 3) := by decide +kernel
theorem dX4_takesLine_113 : decode cX4_takesLine 113 = .ok (.ireturn, 1) := by decide +kernel
theorem dX4_takesLine_114 : decode cX4_takesLine 114 = .ok (.aload_n 0, 1) := by decide +kernel
theorem dX4_takesLine_115 : decode cX4_takesLine 115 = .ok (.invokevirtual 66, 3) := by decide +kernel
theorem dX4_takesLine_118 : decode cX4_takesLine 118 = .ok (.ireturn, 1) := by decide +kernel
theorem dX4_takesLine_119 : decode cX4_takesLine 119 = .ok (.aload_n 0, 1) := by decide +kernel
theorem dX4_takesLine_120 : decode cX4_takesLine 120 = .ok (.invokevirtual 69, 3) := by decide +kernel
theorem dX4_takesLine_123 : decode cX4_takesLine 123 = .ok (.ireturn, 1) := by decide +kernel
theorem dX4_takesGlove_0 : decode cX4_takesGlove 0 = .ok (.aload_n 0, 1) := by decide +kernel
theorem dX4_takesGlove_1 : decode cX4_takesGlove 1 = .ok (.getfield 15, 3) := by decide +kernel
theorem dX4_takesGlove_4 : decode cX4_takesGlove 4 = .ok (.getfield 72, 3) := by decide +kernel
theorem dX4_takesGlove_7 : decode cX4_takesGlove 7 = .ok (.istore_n 2, 1) := by decide +kernel
theorem dX4_takesGlove_8 : decode cX4_takesGlove 8 = .ok (.iload_n 2, 1) := by decide +kernel
theorem dX4_takesGlove_9 : decode cX4_takesGlove 9 = .ok (.iconst 4, 1) := by decide +kernel
theorem dX4_takesGlove_10 : decode cX4_takesGlove 10 = .ok (.if_icmp .lt 9, 3) := by decide +kernel
theorem dX4_takesGlove_13 : decode cX4_takesGlove 13 = .ok (.aload_n 0, 1) := by decide +kernel
theorem dX4_takesGlove_14 : decode cX4_takesGlove 14 = .ok (.iconst 5, 1) := by decide +kernel
theorem dX4_takesGlove_15 : decode cX4_takesGlove 15 = .ok (.invokevirtual 51, 3) := by decide +kernel
theorem dX4_takesGlove_18 : decode cX4_takesGlove 18 = .ok (.ireturn, 1) := by decide +kernel
theorem dX4_takesGlove_19 : decode cX4_takesGlove 19 = .ok (.aload_n 0, 1) := by decide +kernel
theorem dX4_takesGlove_20 : decode cX4_takesGlove 20 = .ok (.getfield 15, 3) := by decide +kernel
theorem dX4_takesGlove_23 : decode cX4_takesGlove 23 = .ok (.getfield 75, 3) := by decide +kernel
theorem dX4_takesGlove_26 : decode cX4_takesGlove 26 = .ok (.iload_n 2, 1) := by decide +kernel
theorem dX4_takesGlove_27 : decode cX4_takesGlove 27 = .ok (.iload_n 1, 1) := by decide +kernel
theorem dX4_takesGlove_28 : decode cX4_takesGlove 28 = .ok (.iastore, 1) := by decide +kernel
theorem dX4_takesGlove_29 : decode cX4_takesGlove 29 = .ok (.aload_n 0, 1) := by decide +kernel
theorem dX4_takesGlove_30 : decode cX4_takesGlove 30 = .ok (.bipush 11, 2) := by decide +kernel
theorem dX4_takesGlove_32 : decode cX4_takesGlove 32 = .ok (.invokevirtual 78, 3) := by decide +kernel
theorem dX4_takesGlove_35 : decode cX4_takesGlove 35 = .ok (.ifCond .ne 5, 3) := by decide +kernel
theorem dX4_takesGlove_38 : decode cX4_takesGlove 38 = .ok (.iconst 0, 1) := by decide +kernel
theorem dX4_takesGlove_39 : decode cX4_takesGlove 39 = .ok (.ireturn, 1) := by decide +kernel
theorem dX4_takesGlove_40 : decode cX4_takesGlove 40 = .ok (.aload_n 0, 1) := by decide +kernel
theorem dX4_takesGlove_41 : decode cX4_takesGlove 41 = .ok (.getfield 15, 3) := by decide +kernel
theorem dX4_takesGlove_44 : decode cX4_takesGlove 44 = .ok (.getfield 81, 3) := by decide +kernel
theorem dX4_takesGlove_47 : decode cX4_takesGlove 47 = .ok (.iload_n 2, 1) := by decide +kernel
theorem dX4_takesGlove_48 : decode cX4_takesGlove 48 = .ok (.aload_n 0, 1) := by decide +kernel
theorem dX4_takesGlove_49 : decode cX4_takesGlove 49 = .ok (.getfield 84, 3) := by decide +kernel
theorem dX4_takesGlove_52 : decode cX4_takesGlove 52 = .ok (.iastore, 1) := by decide +kernel
theorem dX4_takesGlove_53 : decode cX4_takesGlove 53 = .ok (.aload_n 0, 1) := by decide +kernel
theorem dX4_takesGlove_54 : decode cX4_takesGlove 54 = .ok (.bipush 20, 2) := by decide +kernel
theorem dX4_takesGlove_56 : decode cX4_takesGlove 56 = .ok (.invokevirtual 78, 3) := by decide +kernel
theorem dX4_takesGlove_59 : decode cX4_takesGlove 59 = .ok (.ifCond .ne 5, 3) := by decide +kernel
theorem dX4_takesGlove_62 : decode cX4_takesGlove 62 = .ok (.iconst 0, 1) := by decide +kernel
theorem dX4_takesGlove_63 : decode cX4_takesGlove 63 = .ok (.ireturn, 1) := by decide +kernel
theorem dX4_takesGlove_64 : decode cX4_takesGlove 64 = .ok (.aload_n 0, 1) := by decide +kernel
theorem dX4_takesGlove_65 : decode cX4_takesGlove 65 = .ok (.getfield 15, 3) := by decide +kernel
theorem dX4_takesGlove_68 : decode cX4_takesGlove 68 = .ok (.getfield 87, 3) := by decide +kernel
theorem dX4_takesGlove_71 : decode cX4_takesGlove 71 = .ok (.iload_n 2, 1) := by decide +kernel
theorem dX4_takesGlove_72 : decode cX4_takesGlove 72 = .ok (.aload_n 0, 1) := by decide +kernel
theorem dX4_takesGlove_73 : decode cX4_takesGlove 73 = .ok (.getfield 84, 3) := by decide +kernel
theorem dX4_takesGlove_76 : decode cX4_takesGlove 76 = .ok (.iastore, 1) := by decide +kernel
theorem dX4_takesGlove_77 : decode cX4_takesGlove 77 = .ok (.aload_n 0, 1) := by decide +kernel
theorem dX4_takesGlove_78 : decode cX4_takesGlove 78 = .ok (.getfield 15, 3) := by decide +kernel
theorem dX4_takesGlove_81 : decode cX4_takesGlove 81 = .ok (.dup, 1) := by decide +kernel
theorem dX4_takesGlove_82 : decode cX4_takesGlove 82 = .ok (.getfield 72, 3) := by decide +kernel
theorem dX4_takesGlove_85 : decode cX4_takesGlove 85 = .ok (.iconst 1, 1) := by decide +kernel
theorem dX4_takesGlove_86 : decode cX4_takesGlove 86 = .ok (.iadd, 1) := by decide +kernel
theorem dX4_takesGlove_87 : decode cX4_takesGlove 87 = .ok (.putfield 72, 3) := by decide +kernel
theorem dX4_takesGlove_90 : decode cX4_takesGlove 90 = .ok (.aload_n 0, 1) := by decide +kernel
theorem dX4_takesGlove_91 : decode cX4_takesGlove 91 = .ok (.invokevirtual 90, 3) := by decide +kernel
theorem dX4_takesGlove_94 : decode cX4_takesGlove 94 = .ok (.ireturn, 1) := by decide +kernel
theorem dX4_takesRoute_0 : decode cX4_takesRoute 0 = .ok (.aload_n 0, 1) := by decide +kernel
theorem dX4_takesRoute_1 : decode cX4_takesRoute 1 = .ok (.aload_n 0, 1) := by decide +kernel
theorem dX4_takesRoute_2 : decode cX4_takesRoute 2 = .ok (.getfield 15, 3) := by decide +kernel
theorem dX4_takesRoute_5 : decode cX4_takesRoute 5 = .ok (.getfield 93, 3) := by decide +kernel
theorem dX4_takesRoute_8 : decode cX4_takesRoute 8 = .ok (.bipush 11, 2) := by decide +kernel
theorem dX4_takesRoute_10 : decode cX4_takesRoute 10 = .ok (.invokevirtual 62, 3) := by decide +kernel
theorem dX4_takesRoute_13 : decode cX4_takesRoute 13 = .ok (.istore_n 1, 1) := by decide +kernel
theorem dX4_takesRoute_14 : decode cX4_takesRoute 14 = .ok (.aload_n 0, 1) := by decide +kernel
theorem dX4_takesRoute_15 : decode cX4_takesRoute 15 = .ok (.getfield 15, 3) := by decide +kernel
theorem dX4_takesRoute_18 : decode cX4_takesRoute 18 = .ok (.aload_n 0, 1) := by decide +kernel
theorem dX4_takesRoute_19 : decode cX4_takesRoute 19 = .ok (.getfield 96, 3) := by decide +kernel
theorem dX4_takesRoute_22 : decode cX4_takesRoute 22 = .ok (.putfield 99, 3) := by decide +kernel
theorem dX4_takesRoute_25 : decode cX4_takesRoute 25 = .ok (.iload_n 1, 1) := by decide +kernel
theorem dX4_takesRoute_26 : decode cX4_takesRoute 26 = .ok (.ireturn, 1) := by decide +kernel
theorem dX4_takesMan_0 : decode cX4_takesMan 0 = .ok (.aload_n 0, 1) := by decide +kernel
theorem dX4_takesMan_1 : decode cX4_takesMan 1 = .ok (.bipush 11, 2) := by decide +kernel
theorem dX4_takesMan_3 : decode cX4_takesMan 3 = .ok (.invokevirtual 78, 3) := by decide +kernel
theorem dX4_takesMan_6 : decode cX4_takesMan 6 = .ok (.ifCond .ne 5, 3) := by decide +kernel
theorem dX4_takesMan_9 : decode cX4_takesMan 9 = .ok (.iconst 0, 1) := by decide +kernel
theorem dX4_takesMan_10 : decode cX4_takesMan 10 = .ok (.ireturn, 1) := by decide +kernel
theorem dX4_takesMan_11 : decode cX4_takesMan 11 = .ok (.aload_n 0, 1) := by decide +kernel
theorem dX4_takesMan_12 : decode cX4_takesMan 12 = .ok (.getfield 15, 3) := by decide +kernel
theorem dX4_takesMan_15 : decode cX4_takesMan 15 = .ok (.aload_n 0, 1) := by decide +kernel
theorem dX4_takesMan_16 : decode cX4_takesMan 16 = .ok (.getfield 84, 3) := by decide +kernel
theorem dX4_takesMan_19 : decode cX4_takesMan 19 = .ok (.putfield 102, 3) := by decide +kernel
theorem dX4_takesMan_22 : decode cX4_takesMan 22 = .ok (.aload_n 0, 1) := by decide +kernel
theorem dX4_takesMan_23 : decode cX4_takesMan 23 = .ok (.invokevirtual 90, 3) := by decide +kernel
theorem dX4_takesMan_26 : decode cX4_takesMan 26 = .ok (.ireturn, 1) := by decide +kernel
theorem dX4_takesRow_0 : decode cX4_takesRow 0 = .ok (.aload_n 0, 1) := by decide +kernel
theorem dX4_takesRow_1 : decode cX4_takesRow 1 = .ok (.iconst 0, 1) := by decide +kernel
theorem dX4_takesRow_2 : decode cX4_takesRow 2 = .ok (.putfield 96, 3) := by decide +kernel
theorem dX4_takesRow_5 : decode cX4_takesRow 5 = .ok (.aload_n 0, 1) := by decide +kernel
theorem dX4_takesRow_6 : decode cX4_takesRow 6 = .ok (.getfield 96, 3) := by decide +kernel
theorem dX4_takesRow_9 : decode cX4_takesRow 9 = .ok (.aload_n 1, 1) := by decide +kernel
theorem dX4_takesRow_10 : decode cX4_takesRow 10 = .ok (.arraylength, 1) := by decide +kernel
theorem dX4_takesRow_11 : decode cX4_takesRow 11 = .ok (.if_icmp .gt 88, 3) := by decide +kernel
theorem dX4_takesRow_14 : decode cX4_takesRow 14 = .ok (.aload_n 0, 1) := by decide +kernel
theorem dX4_takesRow_15 : decode cX4_takesRow 15 = .ok (.invokevirtual 37, 3) := by decide +kernel
theorem dX4_takesRow_18 : decode cX4_takesRow 18 = .ok (.ifCond .ne 5, 3) := by decide +kernel
theorem dX4_takesRow_21 : decode cX4_takesRow 21 = .ok (.iconst 0, 1) := by decide +kernel
theorem dX4_takesRow_22 : decode cX4_takesRow 22 = .ok (.ireturn, 1) := by decide +kernel
theorem dX4_takesRow_23 : decode cX4_takesRow 23 = .ok (.aload_n 0, 1) := by decide +kernel
theorem dX4_takesRow_24 : decode cX4_takesRow 24 = .ok (.getfield 41, 3) := by decide +kernel
theorem dX4_takesRow_27 : decode cX4_takesRow 27 = .ok (.iconst 3, 1) := by decide +kernel
theorem dX4_takesRow_28 : decode cX4_takesRow 28 = .ok (.if_icmp .ne 5, 3) := by decide +kernel
theorem dX4_takesRow_31 : decode cX4_takesRow 31 = .ok (.iconst 1, 1) := by decide +kernel
theorem dX4_takesRow_32 : decode cX4_takesRow 32 = .ok (.ireturn, 1) := by decide +kernel
theorem dX4_takesRow_33 : decode cX4_takesRow 33 = .ok (.aload_n 0, 1) := by decide +kernel
theorem dX4_takesRow_34 : decode cX4_takesRow 34 = .ok (.getfield 41, 3) := by decide +kernel
theorem dX4_takesRow_37 : decode cX4_takesRow 37 = .ok (.iconst 2, 1) := by decide +kernel
theorem dX4_takesRow_38 : decode cX4_takesRow 38 = .ok (.if_icmp .eq 9, 3) := by decide +kernel
theorem dX4_takesRow_41 : decode cX4_takesRow 41 = .ok (.aload_n 0, 1) := by decide +kernel
theorem dX4_takesRow_42 : decode cX4_takesRow 42 = .ok (.iconst 2, 1) := by decide +kernel
theorem dX4_takesRow_43 : decode cX4_takesRow 43 = .ok (.invokevirtual 51, 3) := by decide +kernel
theorem dX4_takesRow_46 : decode cX4_takesRow 46 = .ok (.ireturn, 1) := by decide +kernel
theorem dX4_takesRow_47 : decode cX4_takesRow 47 = .ok (.aload_n 0, 1) := by decide +kernel
theorem dX4_takesRow_48 : decode cX4_takesRow 48 = .ok (.getfield 96, 3) := by decide +kernel
theorem dX4_takesRow_51 : decode cX4_takesRow 51 = .ok (.aload_n 1, 1) := by decide +kernel
theorem dX4_takesRow_52 : decode cX4_takesRow 52 = .ok (.arraylength, 1) := by decide +kernel
theorem dX4_takesRow_53 : decode cX4_takesRow 53 = .ok (.if_icmp .ne 9, 3) := by decide +kernel
theorem dX4_takesRow_56 : decode cX4_takesRow 56 = .ok (.aload_n 0, 1) := by decide +kernel
theorem dX4_takesRow_57 : decode cX4_takesRow 57 = .ok (.iconst 5, 1) := by decide +kernel
theorem dX4_takesRow_58 : decode cX4_takesRow 58 = .ok (.invokevirtual 51, 3) := by decide +kernel
theorem dX4_takesRow_61 : decode cX4_takesRow 61 = .ok (.ireturn, 1) := by decide +kernel
theorem dX4_takesRow_62 : decode cX4_takesRow 62 = .ok (.aload_n 0, 1) := by decide +kernel
theorem dX4_takesRow_63 : decode cX4_takesRow 63 = .ok (.getfield 84, 3) := by decide +kernel
theorem dX4_takesRow_66 : decode cX4_takesRow 66 = .ok (.iload_n 2, 1) := by decide +kernel
theorem dX4_takesRow_67 : decode cX4_takesRow 67 = .ok (.if_icmp .le 9, 3) := by decide +kernel
theorem dX4_takesRow_70 : decode cX4_takesRow 70 = .ok (.aload_n 0, 1) := by decide +kernel
theorem dX4_takesRow_71 : decode cX4_takesRow 71 = .ok (.iconst 3, 1) := by decide +kernel
theorem dX4_takesRow_72 : decode cX4_takesRow 72 = .ok (.invokevirtual 51, 3) := by decide +kernel
theorem dX4_takesRow_75 : decode cX4_takesRow 75 = .ok (.ireturn, 1) := by decide +kernel
theorem dX4_takesRow_76 : decode cX4_takesRow 76 = .ok (.aload_n 1, 1) := by decide +kernel
theorem dX4_takesRow_77 : decode cX4_takesRow 77 = .ok (.aload_n 0, 1) := by decide +kernel
theorem dX4_takesRow_78 : decode cX4_takesRow 78 = .ok (.getfield 96, 3) := by decide +kernel
theorem dX4_takesRow_81 : decode cX4_takesRow 81 = .ok (.aload_n 0, 1) := by decide +kernel
theorem dX4_takesRow_82 : decode cX4_takesRow 82 = .ok (.getfield 84, 3) := by decide +kernel
theorem dX4_takesRow_85 : decode cX4_takesRow 85 = .ok (.iastore, 1) := by decide +kernel
theorem dX4_takesRow_86 : decode cX4_takesRow 86 = .ok (.aload_n 0, 1) := by decide +kernel
theorem dX4_takesRow_87 : decode cX4_takesRow 87 = .ok (.dup, 1) := by decide +kernel
theorem dX4_takesRow_88 : decode cX4_takesRow 88 = .ok (.getfield 96, 3) := by decide +kernel
theorem dX4_takesRow_91 : decode cX4_takesRow 91 = .ok (.iconst 1, 1) := by decide +kernel
theorem dX4_takesRow_92 : decode cX4_takesRow 92 = .ok (.iadd, 1) := by decide +kernel
theorem dX4_takesRow_93 : decode cX4_takesRow 93 = .ok (.putfield 96, 3) := by decide +kernel
theorem dX4_takesRow_96 : decode cX4_takesRow 96 = .ok (.goto (-91), 3) := by decide +kernel
theorem dX4_takesRow_99 : decode cX4_takesRow 99 = .ok (.iconst 0, 1) := by decide +kernel
theorem dX4_takesRow_100 : decode cX4_takesRow 100 = .ok (.ireturn, 1) := by decide +kernel
theorem dX4_takesNumber_0 : decode cX4_takesNumber 0 = .ok (.aload_n 0, 1) := by decide +kernel
theorem dX4_takesNumber_1 : decode cX4_takesNumber 1 = .ok (.invokevirtual 37, 3) := by decide +kernel
theorem dX4_takesNumber_4 : decode cX4_takesNumber 4 = .ok (.ifCond .ne 5, 3) := by decide +kernel
theorem dX4_takesNumber_7 : decode cX4_takesNumber 7 = .ok (.iconst 0, 1) := by decide +kernel
theorem dX4_takesNumber_8 : decode cX4_takesNumber 8 = .ok (.ireturn, 1) := by decide +kernel
theorem dX4_takesNumber_9 : decode cX4_takesNumber 9 = .ok (.aload_n 0, 1) := by decide +kernel
theorem dX4_takesNumber_10 : decode cX4_takesNumber 10 = .ok (.getfield 41, 3) := by decide +kernel
theorem dX4_takesNumber_13 : decode cX4_takesNumber 13 = .ok (.iconst 2, 1) := by decide +kernel
theorem dX4_takesNumber_14 : decode cX4_takesNumber 14 = .ok (.if_icmp .eq 9, 3) := by decide +kernel
theorem dX4_takesNumber_17 : decode cX4_takesNumber 17 = .ok (.aload_n 0, 1) := by decide +kernel
theorem dX4_takesNumber_18 : decode cX4_takesNumber 18 = .ok (.iconst 2, 1) := by decide +kernel
theorem dX4_takesNumber_19 : decode cX4_takesNumber 19 = .ok (.invokevirtual 51, 3) := by decide +kernel
theorem dX4_takesNumber_22 : decode cX4_takesNumber 22 = .ok (.ireturn, 1) := by decide +kernel
theorem dX4_takesNumber_23 : decode cX4_takesNumber 23 = .ok (.aload_n 0, 1) := by decide +kernel
theorem dX4_takesNumber_24 : decode cX4_takesNumber 24 = .ok (.getfield 84, 3) := by decide +kernel
theorem dX4_takesNumber_27 : decode cX4_takesNumber 27 = .ok (.iload_n 1, 1) := by decide +kernel
theorem dX4_takesNumber_28 : decode cX4_takesNumber 28 = .ok (.if_icmp .le 11, 3) := by decide +kernel
theorem dX4_takesNumber_31 : decode cX4_takesNumber 31 = .ok (.aload_n 0, 1) := by decide +kernel
theorem dX4_takesNumber_32 : decode cX4_takesNumber 32 = .ok (.iconst 3, 1) := by decide +kernel
theorem dX4_takesNumber_33 : decode cX4_takesNumber 33 = .ok (.invokevirtual 51, 3) := by decide +kernel
theorem dX4_takesNumber_36 : decode cX4_takesNumber 36 = .ok (.ifCond .eq 7, 3) := by decide +kernel
theorem dX4_takesNumber_39 : decode cX4_takesNumber 39 = .ok (.iconst 1, 1) := by decide +kernel
theorem dX4_takesNumber_40 : decode cX4_takesNumber 40 = .ok (.goto 4, 3) := by decide +kernel
theorem dX4_takesNumber_43 : decode cX4_takesNumber 43 = .ok (.iconst 0, 1) := by decide +kernel
theorem dX4_takesNumber_44 : decode cX4_takesNumber 44 = .ok (.ireturn, 1) := by decide +kernel
theorem dX4_takesMark_0 : decode cX4_takesMark 0 = .ok (.aload_n 0, 1) := by decide +kernel
theorem dX4_takesMark_1 : decode cX4_takesMark 1 = .ok (.invokevirtual 37, 3) := by decide +kernel
theorem dX4_takesMark_4 : decode cX4_takesMark 4 = .ok (.ifCond .eq 23, 3) := by decide +kernel
theorem dX4_takesMark_7 : decode cX4_takesMark 7 = .ok (.aload_n 0, 1) := by decide +kernel
theorem dX4_takesMark_8 : decode cX4_takesMark 8 = .ok (.getfield 41, 3) := by decide +kernel
theorem dX4_takesMark_11 : decode cX4_takesMark 11 = .ok (.iconst 3, 1) := by decide +kernel
theorem dX4_takesMark_12 : decode cX4_takesMark 12 = .ok (.if_icmp .eq 11, 3) := by decide +kernel
theorem dX4_takesMark_15 : decode cX4_takesMark 15 = .ok (.aload_n 0, 1) := by decide +kernel
theorem dX4_takesMark_16 : decode cX4_takesMark 16 = .ok (.iconst 2, 1) := by decide +kernel
theorem dX4_takesMark_17 : decode cX4_takesMark 17 = .ok (.invokevirtual 51, 3) := by decide +kernel
theorem dX4_takesMark_20 : decode cX4_takesMark 20 = .ok (.ifCond .eq 7, 3) := by decide +kernel
theorem dX4_takesMark_23 : decode cX4_takesMark 23 = .ok (.iconst 1, 1) := by decide +kernel
theorem dX4_takesMark_24 : decode cX4_takesMark 24 = .ok (.goto 4, 3) := by decide +kernel
theorem dX4_takesMark_27 : decode cX4_takesMark 27 = .ok (.iconst 0, 1) := by decide +kernel
theorem dX4_takesMark_28 : decode cX4_takesMark 28 = .ok (.ireturn, 1) := by decide +kernel
theorem dX4_readsToken_0 : decode cX4_readsToken 0 = .ok (.aload_n 0, 1) := by decide +kernel
theorem dX4_readsToken_1 : decode cX4_readsToken 1 = .ok (.getfield 24, 3) := by decide +kernel
theorem dX4_readsToken_4 : decode cX4_readsToken 4 = .ok (.aload_n 0, 1) := by decide +kernel
theorem dX4_readsToken_5 : decode cX4_readsToken 5 = .ok (.getfield 9, 3) := by decide +kernel
theorem dX4_readsToken_8 : decode cX4_readsToken 8 = .ok (.getfield 105, 3) := by decide +kernel
theorem dX4_readsToken_11 : decode cX4_readsToken 11 = .ok (.if_icmp .ge 33, 3) := by decide +kernel
theorem dX4_readsToken_14 : decode cX4_readsToken 14 = .ok (.aload_n 0, 1) := by decide +kernel
theorem dX4_readsToken_15 : decode cX4_readsToken 15 = .ok (.getfield 9, 3) := by decide +kernel
theorem dX4_readsToken_18 : decode cX4_readsToken 18 = .ok (.getfield 110, 3) := by decide +kernel
theorem dX4_readsToken_21 : decode cX4_readsToken 21 = .ok (.aload_n 0, 1) := by decide +kernel
theorem dX4_readsToken_22 : decode cX4_readsToken 22 = .ok (.getfield 24, 3) := by decide +kernel
theorem dX4_readsToken_25 : decode cX4_readsToken 25 = .ok (.baload, 1) := by decide +kernel
theorem dX4_readsToken_26 : decode cX4_readsToken 26 = .ok (.bipush 32, 2) := by decide +kernel
theorem dX4_readsToken_28 : decode cX4_readsToken 28 = .ok (.if_icmp .ne 16, 3) := by decide +kernel
theorem dX4_readsToken_31 : decode cX4_readsToken 31 = .ok (.aload_n 0, 1) := by decide +kernel
theorem dX4_readsToken_32 : decode cX4_readsToken 32 = .ok (.dup, 1) := by decide +kernel
theorem dX4_readsToken_33 : decode cX4_readsToken 33 = .ok (.getfield 24, 3) := by decide +kernel
theorem dX4_readsToken_36 : decode cX4_readsToken 36 = .ok (.iconst 1, 1) := by decide +kernel
theorem dX4_readsToken_37 : decode cX4_readsToken 37 = .ok (.iadd, 1) := by decide +kernel
theorem dX4_readsToken_38 : decode cX4_readsToken 38 = .ok (.putfield 24, 3) := by decide +kernel
theorem dX4_readsToken_41 : decode cX4_readsToken 41 = .ok (.goto (-41), 3) := by decide +kernel
theorem dX4_readsToken_44 : decode cX4_readsToken 44 = .ok (.aload_n 0, 1) := by decide +kernel
theorem dX4_readsToken_45 : decode cX4_readsToken 45 = .ok (.aload_n 0, 1) := by decide +kernel
theorem dX4_readsToken_46 : decode cX4_readsToken 46 = .ok (.getfield 24, 3) := by decide +kernel
theorem dX4_readsToken_49 : decode cX4_readsToken 49 = .ok (.putfield 114, 3) := by decide +kernel
theorem dX4_readsToken_52 : decode cX4_readsToken 52 = .ok (.aload_n 0, 1) := by decide +kernel
theorem dX4_readsToken_53 : decode cX4_readsToken 53 = .ok (.getfield 24, 3) := by decide +kernel
theorem dX4_readsToken_56 : decode cX4_readsToken 56 = .ok (.aload_n 0, 1) := by decide +kernel
theorem dX4_readsToken_57 : decode cX4_readsToken 57 = .ok (.getfield 9, 3) := by decide +kernel
theorem dX4_readsToken_60 : decode cX4_readsToken 60 = .ok (.getfield 105, 3) := by decide +kernel
theorem dX4_readsToken_63 : decode cX4_readsToken 63 = .ok (.if_icmp .lt 10, 3) := by decide +kernel
theorem dX4_readsToken_66 : decode cX4_readsToken 66 = .ok (.aload_n 0, 1) := by decide +kernel
theorem dX4_readsToken_67 : decode cX4_readsToken 67 = .ok (.iconst 0, 1) := by decide +kernel
theorem dX4_readsToken_68 : decode cX4_readsToken 68 = .ok (.putfield 41, 3) := by decide +kernel
theorem dX4_readsToken_71 : decode cX4_readsToken 71 = .ok (.iconst 1, 1) := by decide +kernel
theorem dX4_readsToken_72 : decode cX4_readsToken 72 = .ok (.ireturn, 1) := by decide +kernel
theorem dX4_readsToken_73 : decode cX4_readsToken 73 = .ok (.aload_n 0, 1) := by decide +kernel
theorem dX4_readsToken_74 : decode cX4_readsToken 74 = .ok (.getfield 9, 3) := by decide +kernel
theorem dX4_readsToken_77 : decode cX4_readsToken 77 = .ok (.getfield 110, 3) := by decide +kernel
theorem dX4_readsToken_80 : decode cX4_readsToken 80 = .ok (.aload_n 0, 1) := by decide +kernel
theorem dX4_readsToken_81 : decode cX4_readsToken 81 = .ok (.getfield 24, 3) := by decide +kernel
theorem dX4_readsToken_84 : decode cX4_readsToken 84 = .ok (.baload, 1) := by decide +kernel
theorem dX4_readsToken_85 : decode cX4_readsToken 85 = .ok (.istore_n 1, 1) := by decide +kernel
theorem dX4_readsToken_86 : decode cX4_readsToken 86 = .ok (.iload_n 1, 1) := by decide +kernel
theorem dX4_readsToken_87 : decode cX4_readsToken 87 = .ok (.bipush 59, 2) := by decide +kernel
theorem dX4_readsToken_89 : decode cX4_readsToken 89 = .ok (.if_icmp .ne 20, 3) := by decide +kernel
theorem dX4_readsToken_92 : decode cX4_readsToken 92 = .ok (.aload_n 0, 1) := by decide +kernel
theorem dX4_readsToken_93 : decode cX4_readsToken 93 = .ok (.iconst 3, 1) := by decide +kernel
theorem dX4_readsToken_94 : decode cX4_readsToken 94 = .ok (.putfield 41, 3) := by decide +kernel
theorem dX4_readsToken_97 : decode cX4_readsToken 97 = .ok (.aload_n 0, 1) := by decide +kernel
theorem dX4_readsToken_98 : decode cX4_readsToken 98 = .ok (.dup, 1) := by decide +kernel
theorem dX4_readsToken_99 : decode cX4_readsToken 99 = .ok (.getfield 24, 3) := by decide +kernel
theorem dX4_readsToken_102 : decode cX4_readsToken 102 = .ok (.iconst 1, 1) := by decide +kernel
theorem dX4_readsToken_103 : decode cX4_readsToken 103 = .ok (.iadd, 1) := by decide +kernel
theorem dX4_readsToken_104 : decode cX4_readsToken 104 = .ok (.putfield 24, 3) := by decide +kernel
theorem dX4_readsToken_107 : decode cX4_readsToken 107 = .ok (.iconst 1, 1) := by decide +kernel
theorem dX4_readsToken_108 : decode cX4_readsToken 108 = .ok (.ireturn, 1) := by decide +kernel
theorem dX4_readsToken_109 : decode cX4_readsToken 109 = .ok (.iload_n 1, 1) := by decide +kernel
theorem dX4_readsToken_110 : decode cX4_readsToken 110 = .ok (.invokestatic 117, 3) := by decide +kernel
theorem dX4_readsToken_113 : decode cX4_readsToken 113 = .ok (.ifCond .eq 8, 3) := by decide +kernel
theorem dX4_readsToken_116 : decode cX4_readsToken 116 = .ok (.aload_n 0, 1) := by decide +kernel
theorem dX4_readsToken_117 : decode cX4_readsToken 117 = .ok (.invokevirtual 120, 3) := by decide +kernel
theorem dX4_readsToken_120 : decode cX4_readsToken 120 = .ok (.ireturn, 1) := by decide +kernel
theorem dX4_readsToken_121 : decode cX4_readsToken 121 = .ok (.iload_n 1, 1) := by decide +kernel
theorem dX4_readsToken_122 : decode cX4_readsToken 122 = .ok (.invokestatic 123, 3) := by decide +kernel
theorem dX4_readsToken_125 : decode cX4_readsToken 125 = .ok (.ifCond .eq 10, 3) := by decide +kernel
theorem dX4_readsToken_128 : decode cX4_readsToken 128 = .ok (.aload_n 0, 1) := by decide +kernel
theorem dX4_readsToken_129 : decode cX4_readsToken 129 = .ok (.invokevirtual 126, 3) := by decide +kernel
theorem dX4_readsToken_132 : decode cX4_readsToken 132 = .ok (.goto 8, 3) := by decide +kernel
theorem dX4_readsToken_135 : decode cX4_readsToken 135 = .ok (.aload_n 0, 1) := by decide +kernel
theorem dX4_readsToken_136 : decode cX4_readsToken 136 = .ok (.iconst 1, 1) := by decide +kernel
theorem dX4_readsToken_137 : decode cX4_readsToken 137 = .ok (.invokevirtual 51, 3) := by decide +kernel
theorem dX4_readsToken_140 : decode cX4_readsToken 140 = .ok (.ireturn, 1) := by decide +kernel
theorem dX4_readsWord_0 : decode cX4_readsWord 0 = .ok (.aload_n 0, 1) := by decide +kernel
theorem dX4_readsWord_1 : decode cX4_readsWord 1 = .ok (.iconst 1, 1) := by decide +kernel
theorem dX4_readsWord_2 : decode cX4_readsWord 2 = .ok (.putfield 41, 3) := by decide +kernel
theorem dX4_readsWord_5 : decode cX4_readsWord 5 = .ok (.aload_n 0, 1) := by decide +kernel
theorem dX4_readsWord_6 : decode cX4_readsWord 6 = .ok (.getfield 24, 3) := by decide +kernel
theorem dX4_readsWord_9 : decode cX4_readsWord 9 = .ok (.aload_n 0, 1) := by decide +kernel
theorem dX4_readsWord_10 : decode cX4_readsWord 10 = .ok (.getfield 9, 3) := by decide +kernel
theorem dX4_readsWord_13 : decode cX4_readsWord 13 = .ok (.getfield 105, 3) := by decide +kernel
theorem dX4_readsWord_16 : decode cX4_readsWord 16 = .ok (.if_icmp .ge 34, 3) := by decide +kernel
theorem dX4_readsWord_19 : decode cX4_readsWord 19 = .ok (.aload_n 0, 1) := by decide +kernel
theorem dX4_readsWord_20 : decode cX4_readsWord 20 = .ok (.getfield 9, 3) := by decide +kernel
theorem dX4_readsWord_23 : decode cX4_readsWord 23 = .ok (.getfield 110, 3) := by decide +kernel
theorem dX4_readsWord_26 : decode cX4_readsWord 26 = .ok (.aload_n 0, 1) := by decide +kernel
theorem dX4_readsWord_27 : decode cX4_readsWord 27 = .ok (.getfield 24, 3) := by decide +kernel
theorem dX4_readsWord_30 : decode cX4_readsWord 30 = .ok (.baload, 1) := by decide +kernel
theorem dX4_readsWord_31 : decode cX4_readsWord 31 = .ok (.invokestatic 117, 3) := by decide +kernel
theorem dX4_readsWord_34 : decode cX4_readsWord 34 = .ok (.ifCond .eq 16, 3) := by decide +kernel
theorem dX4_readsWord_37 : decode cX4_readsWord 37 = .ok (.aload_n 0, 1) := by decide +kernel
theorem dX4_readsWord_38 : decode cX4_readsWord 38 = .ok (.dup, 1) := by decide +kernel
theorem dX4_readsWord_39 : decode cX4_readsWord 39 = .ok (.getfield 24, 3) := by decide +kernel
theorem dX4_readsWord_42 : decode cX4_readsWord 42 = .ok (.iconst 1, 1) := by decide +kernel
theorem dX4_readsWord_43 : decode cX4_readsWord 43 = .ok (.iadd, 1) := by decide +kernel
theorem dX4_readsWord_44 : decode cX4_readsWord 44 = .ok (.putfield 24, 3) := by decide +kernel
theorem dX4_readsWord_47 : decode cX4_readsWord 47 = .ok (.goto (-42), 3) := by decide +kernel
theorem dX4_readsWord_50 : decode cX4_readsWord 50 = .ok (.iconst 1, 1) := by decide +kernel
theorem dX4_readsWord_51 : decode cX4_readsWord 51 = .ok (.ireturn, 1) := by decide +kernel
theorem dX4_readsNumber_0 : decode cX4_readsNumber 0 = .ok (.aload_n 0, 1) := by decide +kernel
theorem dX4_readsNumber_1 : decode cX4_readsNumber 1 = .ok (.iconst 2, 1) := by decide +kernel
theorem dX4_readsNumber_2 : decode cX4_readsNumber 2 = .ok (.putfield 41, 3) := by decide +kernel
theorem dX4_readsNumber_5 : decode cX4_readsNumber 5 = .ok (.aload_n 0, 1) := by decide +kernel
theorem dX4_readsNumber_6 : decode cX4_readsNumber 6 = .ok (.iconst 0, 1) := by decide +kernel
theorem dX4_readsNumber_7 : decode cX4_readsNumber 7 = .ok (.putfield 84, 3) := by decide +kernel
theorem dX4_readsNumber_10 : decode cX4_readsNumber 10 = .ok (.aload_n 0, 1) := by decide +kernel
theorem dX4_readsNumber_11 : decode cX4_readsNumber 11 = .ok (.getfield 24, 3) := by decide +kernel
theorem dX4_readsNumber_14 : decode cX4_readsNumber 14 = .ok (.aload_n 0, 1) := by decide +kernel
theorem dX4_readsNumber_15 : decode cX4_readsNumber 15 = .ok (.getfield 9, 3) := by decide +kernel
theorem dX4_readsNumber_18 : decode cX4_readsNumber 18 = .ok (.getfield 105, 3) := by decide +kernel
theorem dX4_readsNumber_21 : decode cX4_readsNumber 21 = .ok (.if_icmp .ge 61, 3) := by decide +kernel
theorem dX4_readsNumber_24 : decode cX4_readsNumber 24 = .ok (.aload_n 0, 1) := by decide +kernel
theorem dX4_readsNumber_25 : decode cX4_readsNumber 25 = .ok (.getfield 9, 3) := by decide +kernel
theorem dX4_readsNumber_28 : decode cX4_readsNumber 28 = .ok (.getfield 110, 3) := by decide +kernel
theorem dX4_readsNumber_31 : decode cX4_readsNumber 31 = .ok (.aload_n 0, 1) := by decide +kernel
theorem dX4_readsNumber_32 : decode cX4_readsNumber 32 = .ok (.getfield 24, 3) := by decide +kernel
theorem dX4_readsNumber_35 : decode cX4_readsNumber 35 = .ok (.baload, 1) := by decide +kernel
theorem dX4_readsNumber_36 : decode cX4_readsNumber 36 = .ok (.invokestatic 123, 3) := by decide +kernel
theorem dX4_readsNumber_39 : decode cX4_readsNumber 39 = .ok (.ifCond .eq 43, 3) := by decide +kernel
theorem dX4_readsNumber_42 : decode cX4_readsNumber 42 = .ok (.aload_n 0, 1) := by decide +kernel
theorem dX4_readsNumber_43 : decode cX4_readsNumber 43 = .ok (.aload_n 0, 1) := by decide +kernel
theorem dX4_readsNumber_44 : decode cX4_readsNumber 44 = .ok (.getfield 84, 3) := by decide +kernel
theorem dX4_readsNumber_47 : decode cX4_readsNumber 47 = .ok (.bipush 10, 2) := by decide +kernel
theorem dX4_readsNumber_49 : decode cX4_readsNumber 49 = .ok (.imul, 1) := by decide +kernel
theorem dX4_readsNumber_50 : decode cX4_readsNumber 50 = .ok (.aload_n 0, 1) := by decide +kernel
theorem dX4_readsNumber_51 : decode cX4_readsNumber 51 = .ok (.getfield 9, 3) := by decide +kernel
theorem dX4_readsNumber_54 : decode cX4_readsNumber 54 = .ok (.getfield 110, 3) := by decide +kernel
theorem dX4_readsNumber_57 : decode cX4_readsNumber 57 = .ok (.aload_n 0, 1) := by decide +kernel
theorem dX4_readsNumber_58 : decode cX4_readsNumber 58 = .ok (.getfield 24, 3) := by decide +kernel
theorem dX4_readsNumber_61 : decode cX4_readsNumber 61 = .ok (.baload, 1) := by decide +kernel
theorem dX4_readsNumber_62 : decode cX4_readsNumber 62 = .ok (.iadd, 1) := by decide +kernel
theorem dX4_readsNumber_63 : decode cX4_readsNumber 63 = .ok (.bipush 48, 2) := by decide +kernel
theorem dX4_readsNumber_65 : decode cX4_readsNumber 65 = .ok (.isub, 1) := by decide +kernel
theorem dX4_readsNumber_66 : decode cX4_readsNumber 66 = .ok (.putfield 84, 3) := by decide +kernel
theorem dX4_readsNumber_69 : decode cX4_readsNumber 69 = .ok (.aload_n 0, 1) := by decide +kernel
theorem dX4_readsNumber_70 : decode cX4_readsNumber 70 = .ok (.dup, 1) := by decide +kernel
theorem dX4_readsNumber_71 : decode cX4_readsNumber 71 = .ok (.getfield 24, 3) := by decide +kernel
theorem dX4_readsNumber_74 : decode cX4_readsNumber 74 = .ok (.iconst 1, 1) := by decide +kernel
theorem dX4_readsNumber_75 : decode cX4_readsNumber 75 = .ok (.iadd, 1) := by decide +kernel
theorem dX4_readsNumber_76 : decode cX4_readsNumber 76 = .ok (.putfield 24, 3) := by decide +kernel
theorem dX4_readsNumber_79 : decode cX4_readsNumber 79 = .ok (.goto (-69), 3) := by decide +kernel
theorem dX4_readsNumber_82 : decode cX4_readsNumber 82 = .ok (.aload_n 0, 1) := by decide +kernel
theorem dX4_readsNumber_83 : decode cX4_readsNumber 83 = .ok (.getfield 24, 3) := by decide +kernel
theorem dX4_readsNumber_86 : decode cX4_readsNumber 86 = .ok (.aload_n 0, 1) := by decide +kernel
theorem dX4_readsNumber_87 : decode cX4_readsNumber 87 = .ok (.getfield 114, 3) := by decide +kernel
theorem dX4_readsNumber_90 : decode cX4_readsNumber 90 = .ok (.isub, 1) := by decide +kernel
theorem dX4_readsNumber_91 : decode cX4_readsNumber 91 = .ok (.iconst 2, 1) := by decide +kernel
theorem dX4_readsNumber_92 : decode cX4_readsNumber 92 = .ok (.if_icmp .le 11, 3) := by decide +kernel
theorem dX4_readsNumber_95 : decode cX4_readsNumber 95 = .ok (.aload_n 0, 1) := by decide +kernel
theorem dX4_readsNumber_96 : decode cX4_readsNumber 96 = .ok (.iconst 1, 1) := by decide +kernel
theorem dX4_readsNumber_97 : decode cX4_readsNumber 97 = .ok (.invokevirtual 51, 3) := by decide +kernel
theorem dX4_readsNumber_100 : decode cX4_readsNumber 100 = .ok (.ifCond .eq 7, 3) := by decide +kernel
theorem dX4_readsNumber_103 : decode cX4_readsNumber 103 = .ok (.iconst 1, 1) := by decide +kernel
theorem dX4_readsNumber_104 : decode cX4_readsNumber 104 = .ok (.goto 4, 3) := by decide +kernel
theorem dX4_readsNumber_107 : decode cX4_readsNumber 107 = .ok (.iconst 0, 1) := by decide +kernel
theorem dX4_readsNumber_108 : decode cX4_readsNumber 108 = .ok (.ireturn, 1) := by decide +kernel
theorem dX4_isLetter_0 : decode cX4_isLetter 0 = .ok (.iload_n 0, 1) := by decide +kernel
theorem dX4_isLetter_1 : decode cX4_isLetter 1 = .ok (.bipush 97, 2) := by decide +kernel
theorem dX4_isLetter_3 : decode cX4_isLetter 3 = .ok (.if_icmp .lt 13, 3) := by decide +kernel
theorem dX4_isLetter_6 : decode cX4_isLetter 6 = .ok (.iload_n 0, 1) := by decide +kernel
theorem dX4_isLetter_7 : decode cX4_isLetter 7 = .ok (.bipush 122, 2) := by decide +kernel
theorem dX4_isLetter_9 : decode cX4_isLetter 9 = .ok (.if_icmp .gt 7, 3) := by decide +kernel
theorem dX4_isLetter_12 : decode cX4_isLetter 12 = .ok (.iconst 1, 1) := by decide +kernel
theorem dX4_isLetter_13 : decode cX4_isLetter 13 = .ok (.goto 4, 3) := by decide +kernel
theorem dX4_isLetter_16 : decode cX4_isLetter 16 = .ok (.iconst 0, 1) := by decide +kernel
theorem dX4_isLetter_17 : decode cX4_isLetter 17 = .ok (.ireturn, 1) := by decide +kernel
theorem dX4_isFigure_0 : decode cX4_isFigure 0 = .ok (.iload_n 0, 1) := by decide +kernel
theorem dX4_isFigure_1 : decode cX4_isFigure 1 = .ok (.bipush 48, 2) := by decide +kernel
theorem dX4_isFigure_3 : decode cX4_isFigure 3 = .ok (.if_icmp .lt 13, 3) := by decide +kernel
theorem dX4_isFigure_6 : decode cX4_isFigure 6 = .ok (.iload_n 0, 1) := by decide +kernel
theorem dX4_isFigure_7 : decode cX4_isFigure 7 = .ok (.bipush 57, 2) := by decide +kernel
theorem dX4_isFigure_9 : decode cX4_isFigure 9 = .ok (.if_icmp .gt 7, 3) := by decide +kernel
theorem dX4_isFigure_12 : decode cX4_isFigure 12 = .ok (.iconst 1, 1) := by decide +kernel
theorem dX4_isFigure_13 : decode cX4_isFigure 13 = .ok (.goto 4, 3) := by decide +kernel
theorem dX4_isFigure_16 : decode cX4_isFigure 16 = .ok (.iconst 0, 1) := by decide +kernel
theorem dX4_isFigure_17 : decode cX4_isFigure 17 = .ok (.ireturn, 1) := by decide +kernel
theorem dX4_wordRead_0 : decode cX4_wordRead 0 = .ok (.iconst 0, 1) := by decide +kernel
theorem dX4_wordRead_1 : decode cX4_wordRead 1 = .ok (.istore_n 1, 1) := by decide +kernel
theorem dX4_wordRead_2 : decode cX4_wordRead 2 = .ok (.iload_n 1, 1) := by decide +kernel
theorem dX4_wordRead_3 : decode cX4_wordRead 3 = .ok (.bipush 7, 2) := by decide +kernel
theorem dX4_wordRead_5 : decode cX4_wordRead 5 = .ok (.if_icmp .ge 22, 3) := by decide +kernel
theorem dX4_wordRead_8 : decode cX4_wordRead 8 = .ok (.aload_n 0, 1) := by decide +kernel
theorem dX4_wordRead_9 : decode cX4_wordRead 9 = .ok (.iload_n 1, 1) := by decide +kernel
theorem dX4_wordRead_10 : decode cX4_wordRead 10 = .ok (.invokestatic 129, 3) := by decide +kernel
theorem dX4_wordRead_13 : decode cX4_wordRead 13 = .ok (.invokevirtual 133, 3) := by decide +kernel
theorem dX4_wordRead_16 : decode cX4_wordRead 16 = .ok (.ifCond .eq 5, 3) := by decide +kernel
theorem dX4_wordRead_19 : decode cX4_wordRead 19 = .ok (.iload_n 1, 1) := by decide +kernel
theorem dX4_wordRead_20 : decode cX4_wordRead 20 = .ok (.ireturn, 1) := by decide +kernel
theorem dX4_wordRead_21 : decode cX4_wordRead 21 = .ok (.iinc 1 1, 3) := by decide +kernel
theorem dX4_wordRead_24 : decode cX4_wordRead 24 = .ok (.goto (-22), 3) := by decide +kernel
theorem dX4_wordRead_27 : decode cX4_wordRead 27 = .ok (.bipush 7, 2) := by decide +kernel
theorem dX4_wordRead_29 : decode cX4_wordRead 29 = .ok (.ireturn, 1) := by decide +kernel
theorem dX4_isSpelled_0 : decode cX4_isSpelled 0 = .ok (.aload_n 0, 1) := by decide +kernel
theorem dX4_isSpelled_1 : decode cX4_isSpelled 1 = .ok (.getfield 24, 3) := by decide +kernel
theorem dX4_isSpelled_4 : decode cX4_isSpelled 4 = .ok (.aload_n 0, 1) := by decide +kernel
theorem dX4_isSpelled_5 : decode cX4_isSpelled 5 = .ok (.getfield 114, 3) := by decide +kernel
theorem dX4_isSpelled_8 : decode cX4_isSpelled 8 = .ok (.isub, 1) := by decide +kernel
theorem dX4_isSpelled_9 : decode cX4_isSpelled 9 = .ok (.aload_n 1, 1) := by decide +kernel
theorem dX4_isSpelled_10 : decode cX4_isSpelled 10 = .ok (.invokevirtual 137, 3) := by decide +kernel
theorem dX4_isSpelled_13 : decode cX4_isSpelled 13 = .ok (.if_icmp .eq 5, 3) := by decide +kernel
theorem dX4_isSpelled_16 : decode cX4_isSpelled 16 = .ok (.iconst 0, 1) := by decide +kernel
theorem dX4_isSpelled_17 : decode cX4_isSpelled 17 = .ok (.ireturn, 1) := by decide +kernel
theorem dX4_isSpelled_18 : decode cX4_isSpelled 18 = .ok (.iconst 0, 1) := by decide +kernel
theorem dX4_isSpelled_19 : decode cX4_isSpelled 19 = .ok (.istore_n 2, 1) := by decide +kernel
theorem dX4_isSpelled_20 : decode cX4_isSpelled 20 = .ok (.iload_n 2, 1) := by decide +kernel
theorem dX4_isSpelled_21 : decode cX4_isSpelled 21 = .ok (.aload_n 1, 1) := by decide +kernel
theorem dX4_isSpelled_22 : decode cX4_isSpelled 22 = .ok (.invokevirtual 137, 3) := by decide +kernel
theorem dX4_isSpelled_25 : decode cX4_isSpelled 25 = .ok (.if_icmp .ge 33, 3) := by decide +kernel
theorem dX4_isSpelled_28 : decode cX4_isSpelled 28 = .ok (.aload_n 0, 1) := by decide +kernel
theorem dX4_isSpelled_29 : decode cX4_isSpelled 29 = .ok (.getfield 9, 3) := by decide +kernel
theorem dX4_isSpelled_32 : decode cX4_isSpelled 32 = .ok (.getfield 110, 3) := by decide +kernel
theorem dX4_isSpelled_35 : decode cX4_isSpelled 35 = .ok (.aload_n 0, 1) := by decide +kernel
theorem dX4_isSpelled_36 : decode cX4_isSpelled 36 = .ok (.getfield 114, 3) := by decide +kernel
theorem dX4_isSpelled_39 : decode cX4_isSpelled 39 = .ok (.iload_n 2, 1) := by decide +kernel
theorem dX4_isSpelled_40 : decode cX4_isSpelled 40 = .ok (.iadd, 1) := by decide +kernel
theorem dX4_isSpelled_41 : decode cX4_isSpelled 41 = .ok (.baload, 1) := by decide +kernel
theorem dX4_isSpelled_42 : decode cX4_isSpelled 42 = .ok (.aload_n 1, 1) := by decide +kernel
theorem dX4_isSpelled_43 : decode cX4_isSpelled 43 = .ok (.iload_n 2, 1) := by decide +kernel
theorem dX4_isSpelled_44 : decode cX4_isSpelled 44 = .ok (.invokevirtual 141, 3) := by decide +kernel
theorem dX4_isSpelled_47 : decode cX4_isSpelled 47 = .ok (.if_icmp .eq 5, 3) := by decide +kernel
theorem dX4_isSpelled_50 : decode cX4_isSpelled 50 = .ok (.iconst 0, 1) := by decide +kernel
theorem dX4_isSpelled_51 : decode cX4_isSpelled 51 = .ok (.ireturn, 1) := by decide +kernel
theorem dX4_isSpelled_52 : decode cX4_isSpelled 52 = .ok (.iinc 2 1, 3) := by decide +kernel
theorem dX4_isSpelled_55 : decode cX4_isSpelled 55 = .ok (.goto (-35), 3) := by decide +kernel
theorem dX4_isSpelled_58 : decode cX4_isSpelled 58 = .ok (.iconst 1, 1) := by decide +kernel
theorem dX4_isSpelled_59 : decode cX4_isSpelled 59 = .ok (.ireturn, 1) := by decide +kernel
theorem dX4_spellingOf_0 : decode cX4_spellingOf 0 = .ok (.iload_n 0, 1) := by decide +kernel
theorem dX4_spellingOf_1 : decode cX4_spellingOf 1 = .ok (.tableswitch 61 0 6 #[43, 46, 49, 61, 52, 55, 58], 43) := by decide +kernel
theorem dX4_spellingOf_44 : decode cX4_spellingOf 44 = .ok (.ldc 145, 2) := by decide +kernel
theorem dX4_spellingOf_46 : decode cX4_spellingOf 46 = .ok (.areturn, 1) := by decide +kernel
theorem dX4_spellingOf_47 : decode cX4_spellingOf 47 = .ok (.ldc 147, 2) := by decide +kernel
theorem dX4_spellingOf_49 : decode cX4_spellingOf 49 = .ok (.areturn, 1) := by decide +kernel
theorem dX4_spellingOf_50 : decode cX4_spellingOf 50 = .ok (.ldc 149, 2) := by decide +kernel
theorem dX4_spellingOf_52 : decode cX4_spellingOf 52 = .ok (.areturn, 1) := by decide +kernel
theorem dX4_spellingOf_53 : decode cX4_spellingOf 53 = .ok (.ldc 151, 2) := by decide +kernel
theorem dX4_spellingOf_55 : decode cX4_spellingOf 55 = .ok (.areturn, 1) := by decide +kernel
theorem dX4_spellingOf_56 : decode cX4_spellingOf 56 = .ok (.ldc 153, 2) := by decide +kernel
theorem dX4_spellingOf_58 : decode cX4_spellingOf 58 = .ok (.areturn, 1) := by decide +kernel
theorem dX4_spellingOf_59 : decode cX4_spellingOf 59 = .ok (.ldc 154, 2) := by decide +kernel
theorem dX4_spellingOf_61 : decode cX4_spellingOf 61 = .ok (.areturn, 1) := by decide +kernel
theorem dX4_spellingOf_62 : decode cX4_spellingOf 62 = .ok (.ldc 155, 2) := by decide +kernel
theorem dX4_spellingOf_64 : decode cX4_spellingOf 64 = .ok (.areturn, 1) := by decide +kernel
theorem dX5_init_0 : decode cX5_init 0 = .ok (.aload_n 0, 1) := by decide +kernel
theorem dX5_init_1 : decode cX5_init 1 = .ok (.invokespecial 3, 3) := by decide +kernel
theorem dX5_init_4 : decode cX5_init 4 = .ok (.aload_n 0, 1) := by decide +kernel
theorem dX5_init_5 : decode cX5_init 5 = .ok (.bipush 12, 2) := by decide +kernel
theorem dX5_init_7 : decode cX5_init 7 = .ok (.newarray .int, 2) := by decide +kernel
theorem dX5_init_9 : decode cX5_init 9 = .ok (.putfield 9, 3) := by decide +kernel
theorem dX5_init_12 : decode cX5_init 12 = .ok (.aload_n 0, 1) := by decide +kernel
theorem dX5_init_13 : decode cX5_init 13 = .ok (.iconst 4, 1) := by decide +kernel
theorem dX5_init_14 : decode cX5_init 14 = .ok (.newarray .int, 2) := by decide +kernel
theorem dX5_init_16 : decode cX5_init 16 = .ok (.putfield 15, 3) := by decide +kernel
theorem dX5_init_19 : decode cX5_init 19 = .ok (.aload_n 0, 1) := by decide +kernel
theorem dX5_init_20 : decode cX5_init 20 = .ok (.iconst 4, 1) := by decide +kernel
theorem dX5_init_21 : decode cX5_init 21 = .ok (.newarray .int, 2) := by decide +kernel
theorem dX5_init_23 : decode cX5_init 23 = .ok (.putfield 18, 3) := by decide +kernel
theorem dX5_init_26 : decode cX5_init 26 = .ok (.aload_n 0, 1) := by decide +kernel
theorem dX5_init_27 : decode cX5_init 27 = .ok (.iconst 4, 1) := by decide +kernel
theorem dX5_init_28 : decode cX5_init 28 = .ok (.newarray .int, 2) := by decide +kernel
theorem dX5_init_30 : decode cX5_init 30 = .ok (.putfield 21, 3) := by decide +kernel
theorem dX5_init_33 : decode cX5_init 33 = .ok (.aload_n 0, 1) := by decide +kernel
theorem dX5_init_34 : decode cX5_init 34 = .ok (.bipush 6, 2) := by decide +kernel
theorem dX5_init_36 : decode cX5_init 36 = .ok (.newarray .int, 2) := by decide +kernel
theorem dX5_init_38 : decode cX5_init 38 = .ok (.putfield 24, 3) := by decide +kernel
theorem dX5_init_41 : decode cX5_init 41 = .ok (.return_, 1) := by decide +kernel
theorem dX5_makeEmpty_0 : decode cX5_makeEmpty 0 = .ok (.aload_n 0, 1) := by decide +kernel
theorem dX5_makeEmpty_1 : decode cX5_makeEmpty 1 = .ok (.getfield 9, 3) := by decide +kernel
theorem dX5_makeEmpty_4 : decode cX5_makeEmpty 4 = .ok (.iconst 0, 1) := by decide +kernel
theorem dX5_makeEmpty_5 : decode cX5_makeEmpty 5 = .ok (.invokestatic 27, 3) := by decide +kernel
theorem dX5_makeEmpty_8 : decode cX5_makeEmpty 8 = .ok (.aload_n 0, 1) := by decide +kernel
theorem dX5_makeEmpty_9 : decode cX5_makeEmpty 9 = .ok (.iconst 0, 1) := by decide +kernel
theorem dX5_makeEmpty_10 : decode cX5_makeEmpty 10 = .ok (.putfield 33, 3) := by decide +kernel
theorem dX5_makeEmpty_13 : decode cX5_makeEmpty 13 = .ok (.aload_n 0, 1) := by decide +kernel
theorem dX5_makeEmpty_14 : decode cX5_makeEmpty 14 = .ok (.iconst 0, 1) := by decide +kernel
theorem dX5_makeEmpty_15 : decode cX5_makeEmpty 15 = .ok (.putfield 37, 3) := by decide +kernel
theorem dX5_makeEmpty_18 : decode cX5_makeEmpty 18 = .ok (.aload_n 0, 1) := by decide +kernel
theorem dX5_makeEmpty_19 : decode cX5_makeEmpty 19 = .ok (.iconst 0, 1) := by decide +kernel
theorem dX5_makeEmpty_20 : decode cX5_makeEmpty 20 = .ok (.putfield 40, 3) := by decide +kernel
theorem dX5_makeEmpty_23 : decode cX5_makeEmpty 23 = .ok (.aload_n 0, 1) := by decide +kernel
theorem dX5_makeEmpty_24 : decode cX5_makeEmpty 24 = .ok (.iconst 0, 1) := by decide +kernel
theorem dX5_makeEmpty_25 : decode cX5_makeEmpty 25 = .ok (.putfield 43, 3) := by decide +kernel
theorem dX5_makeEmpty_28 : decode cX5_makeEmpty 28 = .ok (.aload_n 0, 1) := by decide +kernel
theorem dX5_makeEmpty_29 : decode cX5_makeEmpty 29 = .ok (.iconst 0, 1) := by decide +kernel
theorem dX5_makeEmpty_30 : decode cX5_makeEmpty 30 = .ok (.putfield 46, 3) := by decide +kernel
theorem dX5_makeEmpty_33 : decode cX5_makeEmpty 33 = .ok (.aload_n 0, 1) := by decide +kernel
theorem dX5_makeEmpty_34 : decode cX5_makeEmpty 34 = .ok (.iconst 0, 1) := by decide +kernel
theorem dX5_makeEmpty_35 : decode cX5_makeEmpty 35 = .ok (.putfield 49, 3) := by decide +kernel
theorem dX5_makeEmpty_38 : decode cX5_makeEmpty 38 = .ok (.return_, 1) := by decide +kernel
theorem dX5_become_0 : decode cX5_become 0 = .ok (.aload_n 1, 1) := by decide +kernel
theorem dX5_become_1 : decode cX5_become 1 = .ok (.getfield 9, 3) := by decide +kernel
theorem dX5_become_4 : decode cX5_become 4 = .ok (.iconst 0, 1) := by decide +kernel
theorem dX5_become_5 : decode cX5_become 5 = .ok (.aload_n 0, 1) := by decide +kernel
theorem dX5_become_6 : decode cX5_become 6 = .ok (.getfield 9, 3) := by decide +kernel
theorem dX5_become_9 : decode cX5_become 9 = .ok (.iconst 0, 1) := by decide +kernel
theorem dX5_become_10 : decode cX5_become 10 = .ok (.bipush 12, 2) := by decide +kernel
theorem dX5_become_12 : decode cX5_become 12 = .ok (.invokestatic 52, 3) := by decide +kernel
theorem dX5_become_15 : decode cX5_become 15 = .ok (.aload_n 1, 1) := by decide +kernel
theorem dX5_become_16 : decode cX5_become 16 = .ok (.getfield 15, 3) := by decide +kernel
theorem dX5_become_19 : decode cX5_become 19 = .ok (.iconst 0, 1) := by decide +kernel
theorem dX5_become_20 : decode cX5_become 20 = .ok (.aload_n 0, 1) := by decide +kernel
theorem dX5_become_21 : decode cX5_become 21 = .ok (.getfield 15, 3) := by decide +kernel
theorem dX5_become_24 : decode cX5_become 24 = .ok (.iconst 0, 1) := by decide +kernel
theorem dX5_become_25 : decode cX5_become 25 = .ok (.iconst 4, 1) := by decide +kernel
theorem dX5_become_26 : decode cX5_become 26 = .ok (.invokestatic 52, 3) := by decide +kernel
theorem dX5_become_29 : decode cX5_become 29 = .ok (.aload_n 1, 1) := by decide +kernel
theorem dX5_become_30 : decode cX5_become 30 = .ok (.getfield 18, 3) := by decide +kernel
theorem dX5_become_33 : decode cX5_become 33 = .ok (.iconst 0, 1) := by decide +kernel
theorem dX5_become_34 : decode cX5_become 34 = .ok (.aload_n 0, 1) := by decide +kernel
theorem dX5_become_35 : decode cX5_become 35 = .ok (.getfield 18, 3) := by decide +kernel
theorem dX5_become_38 : decode cX5_become 38 = .ok (.iconst 0, 1) := by decide +kernel
theorem dX5_become_39 : decode cX5_become 39 = .ok (.iconst 4, 1) := by decide +kernel
theorem dX5_become_40 : decode cX5_become 40 = .ok (.invokestatic 52, 3) := by decide +kernel
theorem dX5_become_43 : decode cX5_become 43 = .ok (.aload_n 1, 1) := by decide +kernel
theorem dX5_become_44 : decode cX5_become 44 = .ok (.getfield 21, 3) := by decide +kernel
theorem dX5_become_47 : decode cX5_become 47 = .ok (.iconst 0, 1) := by decide +kernel
theorem dX5_become_48 : decode cX5_become 48 = .ok (.aload_n 0, 1) := by decide +kernel
theorem dX5_become_49 : decode cX5_become 49 = .ok (.getfield 21, 3) := by decide +kernel
theorem dX5_become_52 : decode cX5_become 52 = .ok (.iconst 0, 1) := by decide +kernel
theorem dX5_become_53 : decode cX5_become 53 = .ok (.iconst 4, 1) := by decide +kernel
theorem dX5_become_54 : decode cX5_become 54 = .ok (.invokestatic 52, 3) := by decide +kernel
theorem dX5_become_57 : decode cX5_become 57 = .ok (.aload_n 1, 1) := by decide +kernel
theorem dX5_become_58 : decode cX5_become 58 = .ok (.getfield 24, 3) := by decide +kernel
theorem dX5_become_61 : decode cX5_become 61 = .ok (.iconst 0, 1) := by decide +kernel
theorem dX5_become_62 : decode cX5_become 62 = .ok (.aload_n 0, 1) := by decide +kernel
theorem dX5_become_63 : decode cX5_become 63 = .ok (.getfield 24, 3) := by decide +kernel
theorem dX5_become_66 : decode cX5_become 66 = .ok (.iconst 0, 1) := by decide +kernel
theorem dX5_become_67 : decode cX5_become 67 = .ok (.bipush 6, 2) := by decide +kernel
theorem dX5_become_69 : decode cX5_become 69 = .ok (.invokestatic 52, 3) := by decide +kernel
theorem dX5_become_72 : decode cX5_become 72 = .ok (.aload_n 0, 1) := by decide +kernel
theorem dX5_become_73 : decode cX5_become 73 = .ok (.aload_n 1, 1) := by decide +kernel
theorem dX5_become_74 : decode cX5_become 74 = .ok (.getfield 33, 3) := by decide +kernel
theorem dX5_become_77 : decode cX5_become 77 = .ok (.putfield 33, 3) := by decide +kernel
theorem dX5_become_80 : decode cX5_become 80 = .ok (.aload_n 0, 1) := by decide +kernel
theorem dX5_become_81 : decode cX5_become 81 = .ok (.aload_n 1, 1) := by decide +kernel
theorem dX5_become_82 : decode cX5_become 82 = .ok (.getfield 37, 3) := by decide +kernel
theorem dX5_become_85 : decode cX5_become 85 = .ok (.putfield 37, 3) := by decide +kernel
theorem dX5_become_88 : decode cX5_become 88 = .ok (.aload_n 0, 1) := by decide +kernel
theorem dX5_become_89 : decode cX5_become 89 = .ok (.aload_n 1, 1) := by decide +kernel
theorem dX5_become_90 : decode cX5_become 90 = .ok (.getfield 40, 3) := by decide +kernel
theorem dX5_become_93 : decode cX5_become 93 = .ok (.putfield 40, 3) := by decide +kernel
theorem dX5_become_96 : decode cX5_become 96 = .ok (.aload_n 0, 1) := by decide +kernel
theorem dX5_become_97 : decode cX5_become 97 = .ok (.aload_n 1, 1) := by decide +kernel
theorem dX5_become_98 : decode cX5_become 98 = .ok (.getfield 43, 3) := by decide +kernel
theorem dX5_become_101 : decode cX5_become 101 = .ok (.putfield 43, 3) := by decide +kernel
theorem dX5_become_104 : decode cX5_become 104 = .ok (.aload_n 0, 1) := by decide +kernel
theorem dX5_become_105 : decode cX5_become 105 = .ok (.aload_n 1, 1) := by decide +kernel
theorem dX5_become_106 : decode cX5_become 106 = .ok (.getfield 46, 3) := by decide +kernel
theorem dX5_become_109 : decode cX5_become 109 = .ok (.putfield 46, 3) := by decide +kernel
theorem dX5_become_112 : decode cX5_become 112 = .ok (.aload_n 0, 1) := by decide +kernel
theorem dX5_become_113 : decode cX5_become 113 = .ok (.aload_n 1, 1) := by decide +kernel
theorem dX5_become_114 : decode cX5_become 114 = .ok (.getfield 49, 3) := by decide +kernel
theorem dX5_become_117 : decode cX5_become 117 = .ok (.putfield 49, 3) := by decide +kernel
theorem dX5_become_120 : decode cX5_become 120 = .ok (.return_, 1) := by decide +kernel
theorem dX5_partOf_0 : decode cX5_partOf 0 = .ok (.iload_n 2, 1) := by decide +kernel
theorem dX5_partOf_1 : decode cX5_partOf 1 = .ok (.lookupswitch 41 #[(0, 27), (1, 34)], 27) := by decide +kernel
theorem dX5_partOf_28 : decode cX5_partOf 28 = .ok (.aload_n 0, 1) := by decide +kernel
theorem dX5_partOf_29 : decode cX5_partOf 29 = .ok (.getfield 15, 3) := by decide +kernel
theorem dX5_partOf_32 : decode cX5_partOf 32 = .ok (.iload_n 1, 1) := by decide +kernel
theorem dX5_partOf_33 : decode cX5_partOf 33 = .ok (.iaload, 1) := by decide +kernel
theorem dX5_partOf_34 : decode cX5_partOf 34 = .ok (.ireturn, 1) := by decide +kernel
theorem dX5_partOf_35 : decode cX5_partOf 35 = .ok (.aload_n 0, 1) := by decide +kernel
theorem dX5_partOf_36 : decode cX5_partOf 36 = .ok (.getfield 18, 3) := by decide +kernel
theorem dX5_partOf_39 : decode cX5_partOf 39 = .ok (.iload_n 1, 1) := by decide +kernel
theorem dX5_partOf_40 : decode cX5_partOf 40 = .ok (.iaload, 1) := by decide +kernel
theorem dX5_partOf_41 : decode cX5_partOf 41 = .ok (.ireturn, 1) := by decide +kernel
theorem dX5_partOf_42 : decode cX5_partOf 42 = .ok (.aload_n 0, 1) := by decide +kernel
theorem dX5_partOf_43 : decode cX5_partOf 43 = .ok (.getfield 21, 3) := by decide +kernel
theorem dX5_partOf_46 : decode cX5_partOf 46 = .ok (.iload_n 1, 1) := by decide +kernel
theorem dX5_partOf_47 : decode cX5_partOf 47 = .ok (.iaload, 1) := by decide +kernel
theorem dX5_partOf_48 : decode cX5_partOf 48 = .ok (.ireturn, 1) := by decide +kernel
theorem dX5_putPart_0 : decode cX5_putPart 0 = .ok (.iload_n 2, 1) := by decide +kernel
theorem dX5_putPart_1 : decode cX5_putPart 1 = .ok (.lookupswitch 47 #[(0, 27), (1, 37)], 27) := by decide +kernel
theorem dX5_putPart_28 : decode cX5_putPart 28 = .ok (.aload_n 0, 1) := by decide +kernel
theorem dX5_putPart_29 : decode cX5_putPart 29 = .ok (.getfield 15, 3) := by decide +kernel
theorem dX5_putPart_32 : decode cX5_putPart 32 = .ok (.iload_n 1, 1) := by decide +kernel
theorem dX5_putPart_33 : decode cX5_putPart 33 = .ok (.iload_n 3, 1) := by decide +kernel
theorem dX5_putPart_34 : decode cX5_putPart 34 = .ok (.iastore, 1) := by decide +kernel
theorem dX5_putPart_35 : decode cX5_putPart 35 = .ok (.goto 20, 3) := by decide +kernel
theorem dX5_putPart_38 : decode cX5_putPart 38 = .ok (.aload_n 0, 1) := by decide +kernel
theorem dX5_putPart_39 : decode cX5_putPart 39 = .ok (.getfield 18, 3) := by decide +kernel
theorem dX5_putPart_42 : decode cX5_putPart 42 = .ok (.iload_n 1, 1) := by decide +kernel
theorem dX5_putPart_43 : decode cX5_putPart 43 = .ok (.iload_n 3, 1) := by decide +kernel
theorem dX5_putPart_44 : decode cX5_putPart 44 = .ok (.iastore, 1) := by decide +kernel
theorem dX5_putPart_45 : decode cX5_putPart 45 = .ok (.goto 10, 3) := by decide +kernel
theorem dX5_putPart_48 : decode cX5_putPart 48 = .ok (.aload_n 0, 1) := by decide +kernel
theorem dX5_putPart_49 : decode cX5_putPart 49 = .ok (.getfield 21, 3) := by decide +kernel
theorem dX5_putPart_52 : decode cX5_putPart 52 = .ok (.iload_n 1, 1) := by decide +kernel
theorem dX5_putPart_53 : decode cX5_putPart 53 = .ok (.iload_n 3, 1) := by decide +kernel
theorem dX5_putPart_54 : decode cX5_putPart 54 = .ok (.iastore, 1) := by decide +kernel
theorem dX5_putPart_55 : decode cX5_putPart 55 = .ok (.return_, 1) := by decide +kernel
theorem dX5_isPaired_0 : decode cX5_isPaired 0 = .ok (.aload_n 0, 1) := by decide +kernel
theorem dX5_isPaired_1 : decode cX5_isPaired 1 = .ok (.getfield 33, 3) := by decide +kernel
theorem dX5_isPaired_4 : decode cX5_isPaired 4 = .ok (.iload_n 1, 1) := by decide +kernel
theorem dX5_isPaired_5 : decode cX5_isPaired 5 = .ok (.ishr, 1) := by decide +kernel
theorem dX5_isPaired_6 : decode cX5_isPaired 6 = .ok (.iconst 1, 1) := by decide +kernel
theorem dX5_isPaired_7 : decode cX5_isPaired 7 = .ok (.iand, 1) := by decide +kernel
theorem dX5_isPaired_8 : decode cX5_isPaired 8 = .ok (.iconst 1, 1) := by decide +kernel
theorem dX5_isPaired_9 : decode cX5_isPaired 9 = .ok (.if_icmp .ne 7, 3) := by decide +kernel
theorem dX5_isPaired_12 : decode cX5_isPaired 12 = .ok (.iconst 1, 1) := by decide +kernel
theorem dX5_isPaired_13 : decode cX5_isPaired 13 = .ok (.goto 4, 3) := by decide +kernel
theorem dX5_isPaired_16 : decode cX5_isPaired 16 = .ok (.iconst 0, 1) := by decide +kernel
theorem dX5_isPaired_17 : decode cX5_isPaired 17 = .ok (.ireturn, 1) := by decide +kernel
theorem dX5_isCold_0 : decode cX5_isCold 0 = .ok (.aload_n 0, 1) := by decide +kernel
theorem dX5_isCold_1 : decode cX5_isCold 1 = .ok (.getfield 21, 3) := by decide +kernel
theorem dX5_isCold_4 : decode cX5_isCold 4 = .ok (.iload_n 1, 1) := by decide +kernel
theorem dX5_isCold_5 : decode cX5_isCold 5 = .ok (.iaload, 1) := by decide +kernel
theorem dX5_isCold_6 : decode cX5_isCold 6 = .ok (.ifCond .ne 15, 3) := by decide +kernel
theorem dX5_isCold_9 : decode cX5_isCold 9 = .ok (.aload_n 0, 1) := by decide +kernel
theorem dX5_isCold_10 : decode cX5_isCold 10 = .ok (.iload_n 1, 1) := by decide +kernel
theorem dX5_isCold_11 : decode cX5_isCold 11 = .ok (.invokevirtual 58, 3) := by decide +kernel
theorem dX5_isCold_14 : decode cX5_isCold 14 = .ok (.ifCond .ne 7, 3) := by decide +kernel
theorem dX5_isCold_17 : decode cX5_isCold 17 = .ok (.iconst 1, 1) := by decide +kernel
theorem dX5_isCold_18 : decode cX5_isCold 18 = .ok (.goto 4, 3) := by decide +kernel
theorem dX5_isCold_21 : decode cX5_isCold 21 = .ok (.iconst 0, 1) := by decide +kernel
theorem dX5_isCold_22 : decode cX5_isCold 22 = .ok (.ireturn, 1) := by decide +kernel
theorem dX5_coldOnes_0 : decode cX5_coldOnes 0 = .ok (.iconst 0, 1) := by decide +kernel
theorem dX5_coldOnes_1 : decode cX5_coldOnes 1 = .ok (.istore_n 1, 1) := by decide +kernel
theorem dX5_coldOnes_2 : decode cX5_coldOnes 2 = .ok (.iconst 0, 1) := by decide +kernel
theorem dX5_coldOnes_3 : decode cX5_coldOnes 3 = .ok (.istore_n 2, 1) := by decide +kernel
theorem dX5_coldOnes_4 : decode cX5_coldOnes 4 = .ok (.iload_n 2, 1) := by decide +kernel
theorem dX5_coldOnes_5 : decode cX5_coldOnes 5 = .ok (.aload_n 0, 1) := by decide +kernel
theorem dX5_coldOnes_6 : decode cX5_coldOnes 6 = .ok (.getfield 37, 3) := by decide +kernel
theorem dX5_coldOnes_9 : decode cX5_coldOnes 9 = .ok (.if_icmp .ge 23, 3) := by decide +kernel
theorem dX5_coldOnes_12 : decode cX5_coldOnes 12 = .ok (.aload_n 0, 1) := by decide +kernel
theorem dX5_coldOnes_13 : decode cX5_coldOnes 13 = .ok (.iload_n 2, 1) := by decide +kernel
theorem dX5_coldOnes_14 : decode cX5_coldOnes 14 = .ok (.invokevirtual 62, 3) := by decide +kernel
theorem dX5_coldOnes_17 : decode cX5_coldOnes 17 = .ok (.ifCond .eq 9, 3) := by decide +kernel
theorem dX5_coldOnes_20 : decode cX5_coldOnes 20 = .ok (.iload_n 1, 1) := by decide +kernel
theorem dX5_coldOnes_21 : decode cX5_coldOnes 21 = .ok (.iconst 1, 1) := by decide +kernel
theorem dX5_coldOnes_22 : decode cX5_coldOnes 22 = .ok (.iload_n 2, 1) := by decide +kernel
theorem dX5_coldOnes_23 : decode cX5_coldOnes 23 = .ok (.ishl, 1) := by decide +kernel
theorem dX5_coldOnes_24 : decode cX5_coldOnes 24 = .ok (.ior, 1) := by decide +kernel
theorem dX5_coldOnes_25 : decode cX5_coldOnes 25 = .ok (.istore_n 1, 1) := by decide +kernel
theorem dX5_coldOnes_26 : decode cX5_coldOnes 26 = .ok (.iinc 2 1, 3) := by decide +kernel
theorem dX5_coldOnes_29 : decode cX5_coldOnes 29 = .ok (.goto (-25), 3) := by decide +kernel
theorem dX5_coldOnes_32 : decode cX5_coldOnes 32 = .ok (.iload_n 1, 1) := by decide +kernel
theorem dX5_coldOnes_33 : decode cX5_coldOnes 33 = .ok (.ireturn, 1) := by decide +kernel
theorem dX5_glovesAt_0 : decode cX5_glovesAt 0 = .ok (.iconst 0, 1) := by decide +kernel
theorem dX5_glovesAt_1 : decode cX5_glovesAt 1 = .ok (.istore_n 2, 1) := by decide +kernel
theorem dX5_glovesAt_2 : decode cX5_glovesAt 2 = .ok (.iconst 0, 1) := by decide +kernel
theorem dX5_glovesAt_3 : decode cX5_glovesAt 3 = .ok (.istore_n 3, 1) := by decide +kernel
theorem dX5_glovesAt_4 : decode cX5_glovesAt 4 = .ok (.iload_n 3, 1) := by decide +kernel
theorem dX5_glovesAt_5 : decode cX5_glovesAt 5 = .ok (.aload_n 0, 1) := by decide +kernel
theorem dX5_glovesAt_6 : decode cX5_glovesAt 6 = .ok (.getfield 37, 3) := by decide +kernel
theorem dX5_glovesAt_9 : decode cX5_glovesAt 9 = .ok (.if_icmp .ge 25, 3) := by decide +kernel
theorem dX5_glovesAt_12 : decode cX5_glovesAt 12 = .ok (.aload_n 0, 1) := by decide +kernel
theorem dX5_glovesAt_13 : decode cX5_glovesAt 13 = .ok (.getfield 18, 3) := by decide +kernel
theorem dX5_glovesAt_16 : decode cX5_glovesAt 16 = .ok (.iload_n 3, 1) := by decide +kernel
theorem dX5_glovesAt_17 : decode cX5_glovesAt 17 = .ok (.iaload, 1) := by decide +kernel
theorem dX5_glovesAt_18 : decode cX5_glovesAt 18 = .ok (.iload_n 1, 1) := by decide +kernel
theorem dX5_glovesAt_19 : decode cX5_glovesAt 19 = .ok (.if_icmp .ne 9, 3) := by decide +kernel
theorem dX5_glovesAt_22 : decode cX5_glovesAt 22 = .ok (.iload_n 2, 1) := by decide +kernel
theorem dX5_glovesAt_23 : decode cX5_glovesAt 23 = .ok (.iconst 1, 1) := by decide +kernel
theorem dX5_glovesAt_24 : decode cX5_glovesAt 24 = .ok (.iload_n 3, 1) := by decide +kernel
theorem dX5_glovesAt_25 : decode cX5_glovesAt 25 = .ok (.ishl, 1) := by decide +kernel
theorem dX5_glovesAt_26 : decode cX5_glovesAt 26 = .ok (.ior, 1) := by decide +kernel
theorem dX5_glovesAt_27 : decode cX5_glovesAt 27 = .ok (.istore_n 2, 1) := by decide +kernel
theorem dX5_glovesAt_28 : decode cX5_glovesAt 28 = .ok (.iinc 3 1, 3) := by decide +kernel
theorem dX5_glovesAt_31 : decode cX5_glovesAt 31 = .ok (.goto (-27), 3) := by decide +kernel
theorem dX5_glovesAt_34 : decode cX5_glovesAt 34 = .ok (.iload_n 2, 1) := by decide +kernel
theorem dX5_glovesAt_35 : decode cX5_glovesAt 35 = .ok (.ireturn, 1) := by decide +kernel
theorem dX5_metCount_0 : decode cX5_metCount 0 = .ok (.aload_n 0, 1) := by decide +kernel
theorem dX5_metCount_1 : decode cX5_metCount 1 = .ok (.getfield 33, 3) := by decide +kernel
theorem dX5_metCount_4 : decode cX5_metCount 4 = .ok (.invokestatic 65, 3) := by decide +kernel
theorem dX5_metCount_7 : decode cX5_metCount 7 = .ok (.ireturn, 1) := by decide +kernel
theorem dX5_leaveOutCall_0 : decode cX5_leaveOutCall 0 = .ok (.iload_n 1, 1) := by decide +kernel
theorem dX5_leaveOutCall_1 : decode cX5_leaveOutCall 1 = .ok (.istore_n 2, 1) := by decide +kernel
theorem dX5_leaveOutCall_2 : decode cX5_leaveOutCall 2 = .ok (.iload_n 2, 1) := by decide +kernel
theorem dX5_leaveOutCall_3 : decode cX5_leaveOutCall 3 = .ok (.iconst 1, 1) := by decide +kernel
theorem dX5_leaveOutCall_4 : decode cX5_leaveOutCall 4 = .ok (.iadd, 1) := by decide +kernel
theorem dX5_leaveOutCall_5 : decode cX5_leaveOutCall 5 = .ok (.aload_n 0, 1) := by decide +kernel
theorem dX5_leaveOutCall_6 : decode cX5_leaveOutCall 6 = .ok (.getfield 40, 3) := by decide +kernel
theorem dX5_leaveOutCall_9 : decode cX5_leaveOutCall 9 = .ok (.if_icmp .ge 23, 3) := by decide +kernel
theorem dX5_leaveOutCall_12 : decode cX5_leaveOutCall 12 = .ok (.aload_n 0, 1) := by decide +kernel
theorem dX5_leaveOutCall_13 : decode cX5_leaveOutCall 13 = .ok (.getfield 24, 3) := by decide +kernel
theorem dX5_leaveOutCall_16 : decode cX5_leaveOutCall 16 = .ok (.iload_n 2, 1) := by decide +kernel
theorem dX5_leaveOutCall_17 : decode cX5_leaveOutCall 17 = .ok (.aload_n 0, 1) := by decide +kernel
theorem dX5_leaveOutCall_18 : decode cX5_leaveOutCall 18 = .ok (.getfield 24, 3) := by decide +kernel
theorem dX5_leaveOutCall_21 : decode cX5_leaveOutCall 21 = .ok (.iload_n 2, 1) := by decide +kernel
theorem dX5_leaveOutCall_22 : decode cX5_leaveOutCall 22 = .ok (.iconst 1, 1) := by decide +kernel
theorem dX5_leaveOutCall_23 : decode cX5_leaveOutCall 23 = .ok (.iadd, 1) := by decide +kernel
theorem dX5_leaveOutCall_24 : decode cX5_leaveOutCall 24 = .ok (.iaload, 1) := by decide +kernel
theorem dX5_leaveOutCall_25 : decode cX5_leaveOutCall 25 = .ok (.iastore, 1) := by decide +kernel
theorem dX5_leaveOutCall_26 : decode cX5_leaveOutCall 26 = .ok (.iinc 2 1, 3) := by decide +kernel
theorem dX5_leaveOutCall_29 : decode cX5_leaveOutCall 29 = .ok (.goto (-27), 3) := by decide +kernel
theorem dX5_leaveOutCall_32 : decode cX5_leaveOutCall 32 = .ok (.aload_n 0, 1) := by decide +kernel
theorem dX5_leaveOutCall_33 : decode cX5_leaveOutCall 33 = .ok (.dup, 1) := by decide +kernel
theorem dX5_leaveOutCall_34 : decode cX5_leaveOutCall 34 = .ok (.getfield 40, 3) := by decide +kernel
theorem dX5_leaveOutCall_37 : decode cX5_leaveOutCall 37 = .ok (.iconst 1, 1) := by decide +kernel
theorem dX5_leaveOutCall_38 : decode cX5_leaveOutCall 38 = .ok (.isub, 1) := by decide +kernel
theorem dX5_leaveOutCall_39 : decode cX5_leaveOutCall 39 = .ok (.putfield 40, 3) := by decide +kernel
theorem dX5_leaveOutCall_42 : decode cX5_leaveOutCall 42 = .ok (.return_, 1) := by decide +kernel
theorem dX5_stepOf_0 : decode cX5_stepOf 0 = .ok (.aload_n 0, 1) := by decide +kernel
theorem dX5_stepOf_1 : decode cX5_stepOf 1 = .ok (.getfield 18, 3) := by decide +kernel
theorem dX5_stepOf_4 : decode cX5_stepOf 4 = .ok (.iload_n 1, 1) := by decide +kernel
theorem dX5_stepOf_5 : decode cX5_stepOf 5 = .ok (.iaload, 1) := by decide +kernel
theorem dX5_stepOf_6 : decode cX5_stepOf 6 = .ok (.iconst 1, 1) := by decide +kernel
theorem dX5_stepOf_7 : decode cX5_stepOf 7 = .ok (.iadd, 1) := by decide +kernel
theorem dX5_stepOf_8 : decode cX5_stepOf 8 = .ok (.bipush 12, 2) := by decide +kernel
theorem dX5_stepOf_10 : decode cX5_stepOf 10 = .ok (.irem, 1) := by decide +kernel
theorem dX5_stepOf_11 : decode cX5_stepOf 11 = .ok (.istore_n 2, 1) := by decide +kernel
theorem dX5_stepOf_12 : decode cX5_stepOf 12 = .ok (.aload_n 0, 1) := by decide +kernel
theorem dX5_stepOf_13 : decode cX5_stepOf 13 = .ok (.getfield 18, 3) := by decide +kernel
theorem dX5_stepOf_16 : decode cX5_stepOf 16 = .ok (.iload_n 1, 1) := by decide +kernel
theorem dX5_stepOf_17 : decode cX5_stepOf 17 = .ok (.iaload, 1) := by decide +kernel
theorem dX5_stepOf_18 : decode cX5_stepOf 18 = .ok (.bipush 12, 2) := by decide +kernel
theorem dX5_stepOf_20 : decode cX5_stepOf 20 = .ok (.iadd, 1) := by decide +kernel
theorem dX5_stepOf_21 : decode cX5_stepOf 21 = .ok (.iconst 1, 1) := by decide +kernel
theorem dX5_stepOf_22 : decode cX5_stepOf 22 = .ok (.isub, 1) := by decide +kernel
theorem dX5_stepOf_23 : decode cX5_stepOf 23 = .ok (.bipush 12, 2) := by decide +kernel
theorem dX5_stepOf_25 : decode cX5_stepOf 25 = .ok (.irem, 1) := by decide +kernel
theorem dX5_stepOf_26 : decode cX5_stepOf 26 = .ok (.istore_n 3, 1) := by decide +kernel
theorem dX5_stepOf_27 : decode cX5_stepOf 27 = .ok (.aload_n 0, 1) := by decide +kernel
theorem dX5_stepOf_28 : decode cX5_stepOf 28 = .ok (.getfield 15, 3) := by decide +kernel
theorem dX5_stepOf_31 : decode cX5_stepOf 31 = .ok (.iload_n 1, 1) := by decide +kernel
theorem dX5_stepOf_32 : decode cX5_stepOf 32 = .ok (.iaload, 1) := by decide +kernel
theorem dX5_stepOf_33 : decode cX5_stepOf 33 = .ok (.tableswitch 61 0 2 #[27, 29, 36], 27) := by decide +kernel
theorem dX5_stepOf_60 : decode cX5_stepOf 60 = .ok (.iload_n 2, 1) := by decide +kernel
theorem dX5_stepOf_61 : decode cX5_stepOf 61 = .ok (.ireturn, 1) := by decide +kernel
theorem dX5_stepOf_62 : decode cX5_stepOf 62 = .ok (.iload_n 2, 1) := by decide +kernel
theorem dX5_stepOf_63 : decode cX5_stepOf 63 = .ok (.iconst 1, 1) := by decide +kernel
theorem dX5_stepOf_64 : decode cX5_stepOf 64 = .ok (.iadd, 1) := by decide +kernel
theorem dX5_stepOf_65 : decode cX5_stepOf 65 = .ok (.bipush 12, 2) := by decide +kernel
theorem dX5_stepOf_67 : decode cX5_stepOf 67 = .ok (.irem, 1) := by decide +kernel
theorem dX5_stepOf_68 : decode cX5_stepOf 68 = .ok (.ireturn, 1) := by decide +kernel
theorem dX5_stepOf_69 : decode cX5_stepOf 69 = .ok (.iload_n 3, 1) := by decide +kernel
theorem dX5_stepOf_70 : decode cX5_stepOf 70 = .ok (.aload_n 0, 1) := by decide +kernel
theorem dX5_stepOf_71 : decode cX5_stepOf 71 = .ok (.getfield 43, 3) := by decide +kernel
theorem dX5_stepOf_74 : decode cX5_stepOf 74 = .ok (.invokestatic 71, 3) := by decide +kernel
theorem dX5_stepOf_77 : decode cX5_stepOf 77 = .ok (.iload_n 2, 1) := by decide +kernel
theorem dX5_stepOf_78 : decode cX5_stepOf 78 = .ok (.aload_n 0, 1) := by decide +kernel
theorem dX5_stepOf_79 : decode cX5_stepOf 79 = .ok (.getfield 43, 3) := by decide +kernel
theorem dX5_stepOf_82 : decode cX5_stepOf 82 = .ok (.invokestatic 71, 3) := by decide +kernel
theorem dX5_stepOf_85 : decode cX5_stepOf 85 = .ok (.if_icmp .le 7, 3) := by decide +kernel
theorem dX5_stepOf_88 : decode cX5_stepOf 88 = .ok (.iload_n 3, 1) := by decide +kernel
theorem dX5_stepOf_89 : decode cX5_stepOf 89 = .ok (.goto 4, 3) := by decide +kernel
theorem dX5_stepOf_92 : decode cX5_stepOf 92 = .ok (.iload_n 2, 1) := by decide +kernel
theorem dX5_stepOf_93 : decode cX5_stepOf 93 = .ok (.ireturn, 1) := by decide +kernel
theorem dX5_stepOf_94 : decode cX5_stepOf 94 = .ok (.iload_n 3, 1) := by decide +kernel
theorem dX5_stepOf_95 : decode cX5_stepOf 95 = .ok (.aload_n 0, 1) := by decide +kernel
theorem dX5_stepOf_96 : decode cX5_stepOf 96 = .ok (.getfield 43, 3) := by decide +kernel
theorem dX5_stepOf_99 : decode cX5_stepOf 99 = .ok (.invokestatic 71, 3) := by decide +kernel
theorem dX5_stepOf_102 : decode cX5_stepOf 102 = .ok (.iload_n 2, 1) := by decide +kernel
theorem dX5_stepOf_103 : decode cX5_stepOf 103 = .ok (.aload_n 0, 1) := by decide +kernel
theorem dX5_stepOf_104 : decode cX5_stepOf 104 = .ok (.getfield 43, 3) := by decide +kernel
theorem dX5_stepOf_107 : decode cX5_stepOf 107 = .ok (.invokestatic 71, 3) := by decide +kernel
theorem dX5_stepOf_110 : decode cX5_stepOf 110 = .ok (.if_icmp .ge 7, 3) := by decide +kernel
theorem dX5_stepOf_113 : decode cX5_stepOf 113 = .ok (.iload_n 3, 1) := by decide +kernel
theorem dX5_stepOf_114 : decode cX5_stepOf 114 = .ok (.goto 4, 3) := by decide +kernel
theorem dX5_stepOf_117 : decode cX5_stepOf 117 = .ok (.iload_n 2, 1) := by decide +kernel
theorem dX5_stepOf_118 : decode cX5_stepOf 118 = .ok (.ireturn, 1) := by decide +kernel
theorem dX5_moveMan_0 : decode cX5_moveMan 0 = .ok (.aload_n 0, 1) := by decide +kernel
theorem dX5_moveMan_1 : decode cX5_moveMan 1 = .ok (.iload_n 1, 1) := by decide +kernel
theorem dX5_moveMan_2 : decode cX5_moveMan 2 = .ok (.putfield 43, 3) := by decide +kernel
theorem dX5_moveMan_5 : decode cX5_moveMan 5 = .ok (.iconst 0, 1) := by decide +kernel
theorem dX5_moveMan_6 : decode cX5_moveMan 6 = .ok (.istore_n 2, 1) := by decide +kernel
theorem dX5_moveMan_7 : decode cX5_moveMan 7 = .ok (.iload_n 2, 1) := by decide +kernel
theorem dX5_moveMan_8 : decode cX5_moveMan 8 = .ok (.aload_n 0, 1) := by decide +kernel
theorem dX5_moveMan_9 : decode cX5_moveMan 9 = .ok (.getfield 37, 3) := by decide +kernel
theorem dX5_moveMan_12 : decode cX5_moveMan 12 = .ok (.if_icmp .ge 24, 3) := by decide +kernel
theorem dX5_moveMan_15 : decode cX5_moveMan 15 = .ok (.aload_n 0, 1) := by decide +kernel
theorem dX5_moveMan_16 : decode cX5_moveMan 16 = .ok (.iload_n 2, 1) := by decide +kernel
theorem dX5_moveMan_17 : decode cX5_moveMan 17 = .ok (.invokevirtual 58, 3) := by decide +kernel
theorem dX5_moveMan_20 : decode cX5_moveMan 20 = .ok (.ifCond .eq 10, 3) := by decide +kernel
theorem dX5_moveMan_23 : decode cX5_moveMan 23 = .ok (.aload_n 0, 1) := by decide +kernel
theorem dX5_moveMan_24 : decode cX5_moveMan 24 = .ok (.getfield 18, 3) := by decide +kernel
theorem dX5_moveMan_27 : decode cX5_moveMan 27 = .ok (.iload_n 2, 1) := by decide +kernel
theorem dX5_moveMan_28 : decode cX5_moveMan 28 = .ok (.iload_n 1, 1) := by decide +kernel
theorem dX5_moveMan_29 : decode cX5_moveMan 29 = .ok (.iastore, 1) := by decide +kernel
theorem dX5_moveMan_30 : decode cX5_moveMan 30 = .ok (.iinc 2 1, 3) := by decide +kernel
theorem dX5_moveMan_33 : decode cX5_moveMan 33 = .ok (.goto (-26), 3) := by decide +kernel
theorem dX5_moveMan_36 : decode cX5_moveMan 36 = .ok (.return_, 1) := by decide +kernel
theorem dX5_passDays_0 : decode cX5_passDays 0 = .ok (.iconst 0, 1) := by decide +kernel
theorem dX5_passDays_1 : decode cX5_passDays 1 = .ok (.istore_n 2, 1) := by decide +kernel
theorem dX5_passDays_2 : decode cX5_passDays 2 = .ok (.iload_n 2, 1) := by decide +kernel
theorem dX5_passDays_3 : decode cX5_passDays 3 = .ok (.iload_n 1, 1) := by decide +kernel
theorem dX5_passDays_4 : decode cX5_passDays 4 = .ok (.if_icmp .ge 41, 3) := by decide +kernel
theorem dX5_passDays_7 : decode cX5_passDays 7 = .ok (.aload_n 0, 1) := by decide +kernel
theorem dX5_passDays_8 : decode cX5_passDays 8 = .ok (.aload_n 0, 1) := by decide +kernel
theorem dX5_passDays_9 : decode cX5_passDays 9 = .ok (.getfield 40, 3) := by decide +kernel
theorem dX5_passDays_12 : decode cX5_passDays 12 = .ok (.ifCond .le 20, 3) := by decide +kernel
theorem dX5_passDays_15 : decode cX5_passDays 15 = .ok (.aload_n 0, 1) := by decide +kernel
theorem dX5_passDays_16 : decode cX5_passDays 16 = .ok (.getfield 24, 3) := by decide +kernel
theorem dX5_passDays_19 : decode cX5_passDays 19 = .ok (.aload_n 0, 1) := by decide +kernel
theorem dX5_passDays_20 : decode cX5_passDays 20 = .ok (.getfield 49, 3) := by decide +kernel
theorem dX5_passDays_23 : decode cX5_passDays 23 = .ok (.aload_n 0, 1) := by decide +kernel
theorem dX5_passDays_24 : decode cX5_passDays 24 = .ok (.getfield 40, 3) := by decide +kernel
theorem dX5_passDays_27 : decode cX5_passDays 27 = .ok (.irem, 1) := by decide +kernel
theorem dX5_passDays_28 : decode cX5_passDays 28 = .ok (.iaload, 1) := by decide +kernel
theorem dX5_passDays_29 : decode cX5_passDays 29 = .ok (.goto 7, 3) := by decide +kernel
theorem dX5_passDays_32 : decode cX5_passDays 32 = .ok (.aload_n 0, 1) := by decide +kernel
theorem dX5_passDays_33 : decode cX5_passDays 33 = .ok (.getfield 43, 3) := by decide +kernel
theorem dX5_passDays_36 : decode cX5_passDays 36 = .ok (.invokevirtual 75, 3) := by decide +kernel
theorem dX5_passDays_39 : decode cX5_passDays 39 = .ok (.iinc 2 1, 3) := by decide +kernel
theorem dX5_passDays_42 : decode cX5_passDays 42 = .ok (.goto (-40), 3) := by decide +kernel
theorem dX5_passDays_45 : decode cX5_passDays 45 = .ok (.return_, 1) := by decide +kernel
theorem dX5_passDay_0 : decode cX5_passDay 0 = .ok (.aload_n 0, 1) := by decide +kernel
theorem dX5_passDay_1 : decode cX5_passDay 1 = .ok (.iload_n 1, 1) := by decide +kernel
theorem dX5_passDay_2 : decode cX5_passDay 2 = .ok (.putfield 43, 3) := by decide +kernel
theorem dX5_passDay_5 : decode cX5_passDay 5 = .ok (.iconst 0, 1) := by decide +kernel
theorem dX5_passDay_6 : decode cX5_passDay 6 = .ok (.istore_n 2, 1) := by decide +kernel
theorem dX5_passDay_7 : decode cX5_passDay 7 = .ok (.iload_n 2, 1) := by decide +kernel
theorem dX5_passDay_8 : decode cX5_passDay 8 = .ok (.aload_n 0, 1) := by decide +kernel
theorem dX5_passDay_9 : decode cX5_passDay 9 = .ok (.getfield 37, 3) := by decide +kernel
theorem dX5_passDay_12 : decode cX5_passDay 12 = .ok (.if_icmp .ge 14, 3) := by decide +kernel
theorem dX5_passDay_15 : decode cX5_passDay 15 = .ok (.aload_n 0, 1) := by decide +kernel
theorem dX5_passDay_16 : decode cX5_passDay 16 = .ok (.iload_n 2, 1) := by decide +kernel
theorem dX5_passDay_17 : decode cX5_passDay 17 = .ok (.invokevirtual 79, 3) := by decide +kernel
theorem dX5_passDay_20 : decode cX5_passDay 20 = .ok (.iinc 2 1, 3) := by decide +kernel
theorem dX5_passDay_23 : decode cX5_passDay 23 = .ok (.goto (-16), 3) := by decide +kernel
theorem dX5_passDay_26 : decode cX5_passDay 26 = .ok (.aload_n 0, 1) := by decide +kernel
theorem dX5_passDay_27 : decode cX5_passDay 27 = .ok (.dup, 1) := by decide +kernel
theorem dX5_passDay_28 : decode cX5_passDay 28 = .ok (.getfield 49, 3) := by decide +kernel
theorem dX5_passDay_31 : decode cX5_passDay 31 = .ok (.iconst 1, 1) := by decide +kernel
theorem dX5_passDay_32 : decode cX5_passDay 32 = .ok (.iadd, 1) := by decide +kernel
theorem dX5_passDay_33 : decode cX5_passDay 33 = .ok (.putfield 49, 3) := by decide +kernel
theorem dX5_passDay_36 : decode cX5_passDay 36 = .ok (.return_, 1) := by decide +kernel
theorem dX5_passDayOfGlove_0 : decode cX5_passDayOfGlove 0 = .ok (.aload_n 0, 1) := by decide +kernel
theorem dX5_passDayOfGlove_1 : decode cX5_passDayOfGlove 1 = .ok (.iload_n 1, 1) := by decide +kernel
theorem dX5_passDayOfGlove_2 : decode cX5_passDayOfGlove 2 = .ok (.invokevirtual 58, 3) := by decide +kernel
theorem dX5_passDayOfGlove_5 : decode cX5_passDayOfGlove 5 = .ok (.ifCond .eq 33, 3) := by decide +kernel
theorem dX5_passDayOfGlove_8 : decode cX5_passDayOfGlove 8 = .ok (.aload_n 0, 1) := by decide +kernel
theorem dX5_passDayOfGlove_9 : decode cX5_passDayOfGlove 9 = .ok (.getfield 18, 3) := by decide +kernel
theorem dX5_passDayOfGlove_12 : decode cX5_passDayOfGlove 12 = .ok (.iload_n 1, 1) := by decide +kernel
theorem dX5_passDayOfGlove_13 : decode cX5_passDayOfGlove 13 = .ok (.aload_n 0, 1) := by decide +kernel
theorem dX5_passDayOfGlove_14 : decode cX5_passDayOfGlove 14 = .ok (.getfield 43, 3) := by decide +kernel
theorem dX5_passDayOfGlove_17 : decode cX5_passDayOfGlove 17 = .ok (.iastore, 1) := by decide +kernel
theorem dX5_passDayOfGlove_18 : decode cX5_passDayOfGlove 18 = .ok (.aload_n 0, 1) := by decide +kernel
theorem dX5_passDayOfGlove_19 : decode cX5_passDayOfGlove 19 = .ok (.getfield 21, 3) := by decide +kernel
theorem dX5_passDayOfGlove_22 : decode cX5_passDayOfGlove 22 = .ok (.iload_n 1, 1) := by decide +kernel
theorem dX5_passDayOfGlove_23 : decode cX5_passDayOfGlove 23 = .ok (.aload_n 0, 1) := by decide +kernel
theorem dX5_passDayOfGlove_24 : decode cX5_passDayOfGlove 24 = .ok (.getfield 21, 3) := by decide +kernel
theorem dX5_passDayOfGlove_27 : decode cX5_passDayOfGlove 27 = .ok (.iload_n 1, 1) := by decide +kernel
theorem dX5_passDayOfGlove_28 : decode cX5_passDayOfGlove 28 = .ok (.iaload, 1) := by decide +kernel
theorem dX5_passDayOfGlove_29 : decode cX5_passDayOfGlove 29 = .ok (.iconst 1, 1) := by decide +kernel
theorem dX5_passDayOfGlove_30 : decode cX5_passDayOfGlove 30 = .ok (.iadd, 1) := by decide +kernel
theorem dX5_passDayOfGlove_31 : decode cX5_passDayOfGlove 31 = .ok (.bipush 20, 2) := by decide +kernel
theorem dX5_passDayOfGlove_33 : decode cX5_passDayOfGlove 33 = .ok (.invokestatic 82, 3) := by decide +kernel
theorem dX5_passDayOfGlove_36 : decode cX5_passDayOfGlove 36 = .ok (.iastore, 1) := by decide +kernel
theorem dX5_passDayOfGlove_37 : decode cX5_passDayOfGlove 37 = .ok (.return_, 1) := by decide +kernel
theorem dX5_passDayOfGlove_38 : decode cX5_passDayOfGlove 38 = .ok (.aload_n 0, 1) := by decide +kernel
theorem dX5_passDayOfGlove_39 : decode cX5_passDayOfGlove 39 = .ok (.iload_n 1, 1) := by decide +kernel
theorem dX5_passDayOfGlove_40 : decode cX5_passDayOfGlove 40 = .ok (.invokevirtual 62, 3) := by decide +kernel
theorem dX5_passDayOfGlove_43 : decode cX5_passDayOfGlove 43 = .ok (.ifCond .eq 4, 3) := by decide +kernel
theorem dX5_passDayOfGlove_46 : decode cX5_passDayOfGlove 46 = .ok (.return_, 1) := by decide +kernel
theorem dX5_passDayOfGlove_47 : decode cX5_passDayOfGlove 47 = .ok (.aload_n 0, 1) := by decide +kernel
theorem dX5_passDayOfGlove_48 : decode cX5_passDayOfGlove 48 = .ok (.getfield 18, 3) := by decide +kernel
theorem dX5_passDayOfGlove_51 : decode cX5_passDayOfGlove 51 = .ok (.iload_n 1, 1) := by decide +kernel
theorem dX5_passDayOfGlove_52 : decode cX5_passDayOfGlove 52 = .ok (.aload_n 0, 1) := by decide +kernel
theorem dX5_passDayOfGlove_53 : decode cX5_passDayOfGlove 53 = .ok (.iload_n 1, 1) := by decide +kernel
theorem dX5_passDayOfGlove_54 : decode cX5_passDayOfGlove 54 = .ok (.invokevirtual 87, 3) := by decide +kernel
theorem dX5_passDayOfGlove_57 : decode cX5_passDayOfGlove 57 = .ok (.iastore, 1) := by decide +kernel
theorem dX5_passDayOfGlove_58 : decode cX5_passDayOfGlove 58 = .ok (.aload_n 0, 1) := by decide +kernel
theorem dX5_passDayOfGlove_59 : decode cX5_passDayOfGlove 59 = .ok (.getfield 18, 3) := by decide +kernel
theorem dX5_passDayOfGlove_62 : decode cX5_passDayOfGlove 62 = .ok (.iload_n 1, 1) := by decide +kernel
theorem dX5_passDayOfGlove_63 : decode cX5_passDayOfGlove 63 = .ok (.iaload, 1) := by decide +kernel
theorem dX5_passDayOfGlove_64 : decode cX5_passDayOfGlove 64 = .ok (.aload_n 0, 1) := by decide +kernel
theorem dX5_passDayOfGlove_65 : decode cX5_passDayOfGlove 65 = .ok (.getfield 43, 3) := by decide +kernel
theorem dX5_passDayOfGlove_68 : decode cX5_passDayOfGlove 68 = .ok (.if_icmp .ne 16, 3) := by decide +kernel
theorem dX5_passDayOfGlove_71 : decode cX5_passDayOfGlove 71 = .ok (.aload_n 0, 1) := by decide +kernel
theorem dX5_passDayOfGlove_72 : decode cX5_passDayOfGlove 72 = .ok (.dup, 1) := by decide +kernel
theorem dX5_passDayOfGlove_73 : decode cX5_passDayOfGlove 73 = .ok (.getfield 33, 3) := by decide +kernel
theorem dX5_passDayOfGlove_76 : decode cX5_passDayOfGlove 76 = .ok (.iconst 1, 1) := by decide +kernel
theorem dX5_passDayOfGlove_77 : decode cX5_passDayOfGlove 77 = .ok (.iload_n 1, 1) := by decide +kernel
theorem dX5_passDayOfGlove_78 : decode cX5_passDayOfGlove 78 = .ok (.ishl, 1) := by decide +kernel
theorem dX5_passDayOfGlove_79 : decode cX5_passDayOfGlove 79 = .ok (.ior, 1) := by decide +kernel
theorem dX5_passDayOfGlove_80 : decode cX5_passDayOfGlove 80 = .ok (.putfield 33, 3) := by decide +kernel
theorem dX5_passDayOfGlove_83 : decode cX5_passDayOfGlove 83 = .ok (.return_, 1) := by decide +kernel
theorem dX5_passDayOfGlove_84 : decode cX5_passDayOfGlove 84 = .ok (.aload_n 0, 1) := by decide +kernel
theorem dX5_passDayOfGlove_85 : decode cX5_passDayOfGlove 85 = .ok (.aload_n 0, 1) := by decide +kernel
theorem dX5_passDayOfGlove_86 : decode cX5_passDayOfGlove 86 = .ok (.getfield 46, 3) := by decide +kernel
theorem dX5_passDayOfGlove_89 : decode cX5_passDayOfGlove 89 = .ok (.aload_n 0, 1) := by decide +kernel
theorem dX5_passDayOfGlove_90 : decode cX5_passDayOfGlove 90 = .ok (.getfield 9, 3) := by decide +kernel
theorem dX5_passDayOfGlove_93 : decode cX5_passDayOfGlove 93 = .ok (.aload_n 0, 1) := by decide +kernel
theorem dX5_passDayOfGlove_94 : decode cX5_passDayOfGlove 94 = .ok (.getfield 18, 3) := by decide +kernel
theorem dX5_passDayOfGlove_97 : decode cX5_passDayOfGlove 97 = .ok (.iload_n 1, 1) := by decide +kernel
theorem dX5_passDayOfGlove_98 : decode cX5_passDayOfGlove 98 = .ok (.iaload, 1) := by decide +kernel
theorem dX5_passDayOfGlove_99 : decode cX5_passDayOfGlove 99 = .ok (.iaload, 1) := by decide +kernel
theorem dX5_passDayOfGlove_100 : decode cX5_passDayOfGlove 100 = .ok (.iadd, 1) := by decide +kernel
theorem dX5_passDayOfGlove_101 : decode cX5_passDayOfGlove 101 = .ok (.sipush 9999, 3) := by decide +kernel
theorem dX5_passDayOfGlove_104 : decode cX5_passDayOfGlove 104 = .ok (.invokestatic 82, 3) := by decide +kernel
theorem dX5_passDayOfGlove_107 : decode cX5_passDayOfGlove 107 = .ok (.putfield 46, 3) := by decide +kernel
theorem dX5_passDayOfGlove_110 : decode cX5_passDayOfGlove 110 = .ok (.aload_n 0, 1) := by decide +kernel
theorem dX5_passDayOfGlove_111 : decode cX5_passDayOfGlove 111 = .ok (.getfield 21, 3) := by decide +kernel
theorem dX5_passDayOfGlove_114 : decode cX5_passDayOfGlove 114 = .ok (.iload_n 1, 1) := by decide +kernel
theorem dX5_passDayOfGlove_115 : decode cX5_passDayOfGlove 115 = .ok (.dup2, 1) := by decide +kernel
theorem dX5_passDayOfGlove_116 : decode cX5_passDayOfGlove 116 = .ok (.iaload, 1) := by decide +kernel
theorem dX5_passDayOfGlove_117 : decode cX5_passDayOfGlove 117 = .ok (.iconst 1, 1) := by decide +kernel
theorem dX5_passDayOfGlove_118 : decode cX5_passDayOfGlove 118 = .ok (.isub, 1) := by decide +kernel
theorem dX5_passDayOfGlove_119 : decode cX5_passDayOfGlove 119 = .ok (.iastore, 1) := by decide +kernel
theorem dX5_passDayOfGlove_120 : decode cX5_passDayOfGlove 120 = .ok (.return_, 1) := by decide +kernel
theorem dJ6_bitCount_0f7a4_0 : decode cJ6_bitCount_0f7a4 0 = .ok (.iload_n 0, 1) := by decide +kernel
theorem dJ6_bitCount_0f7a4_1 : decode cJ6_bitCount_0f7a4 1 = .ok (.iload_n 0, 1) := by decide +kernel
theorem dJ6_bitCount_0f7a4_2 : decode cJ6_bitCount_0f7a4 2 = .ok (.iconst 1, 1) := by decide +kernel
theorem dJ6_bitCount_0f7a4_3 : decode cJ6_bitCount_0f7a4 3 = .ok (.iushr, 1) := by decide +kernel
theorem dJ6_bitCount_0f7a4_4 : decode cJ6_bitCount_0f7a4 4 = .ok (.ldc_w 265, 3) := by decide +kernel
theorem dJ6_bitCount_0f7a4_7 : decode cJ6_bitCount_0f7a4 7 = .ok (.iand, 1) := by decide +kernel
theorem dJ6_bitCount_0f7a4_8 : decode cJ6_bitCount_0f7a4 8 = .ok (.isub, 1) := by decide +kernel
theorem dJ6_bitCount_0f7a4_9 : decode cJ6_bitCount_0f7a4 9 = .ok (.istore_n 0, 1) := by decide +kernel
theorem dJ6_bitCount_0f7a4_10 : decode cJ6_bitCount_0f7a4 10 = .ok (.iload_n 0, 1) := by decide +kernel
theorem dJ6_bitCount_0f7a4_11 : decode cJ6_bitCount_0f7a4 11 = .ok (.ldc_w 266, 3) := by decide +kernel
theorem dJ6_bitCount_0f7a4_14 : decode cJ6_bitCount_0f7a4 14 = .ok (.iand, 1) := by decide +kernel
theorem dJ6_bitCount_0f7a4_15 : decode cJ6_bitCount_0f7a4 15 = .ok (.iload_n 0, 1) := by decide +kernel
theorem dJ6_bitCount_0f7a4_16 : decode cJ6_bitCount_0f7a4 16 = .ok (.iconst 2, 1) := by decide +kernel
theorem dJ6_bitCount_0f7a4_17 : decode cJ6_bitCount_0f7a4 17 = .ok (.iushr, 1) := by decide +kernel
theorem dJ6_bitCount_0f7a4_18 : decode cJ6_bitCount_0f7a4 18 = .ok (.ldc_w 266, 3) := by decide +kernel
theorem dJ6_bitCount_0f7a4_21 : decode cJ6_bitCount_0f7a4 21 = .ok (.iand, 1) := by decide +kernel
theorem dJ6_bitCount_0f7a4_22 : decode cJ6_bitCount_0f7a4 22 = .ok (.iadd, 1) := by decide +kernel
theorem dJ6_bitCount_0f7a4_23 : decode cJ6_bitCount_0f7a4 23 = .ok (.istore_n 0, 1) := by decide +kernel
theorem dJ6_bitCount_0f7a4_24 : decode cJ6_bitCount_0f7a4 24 = .ok (.iload_n 0, 1) := by decide +kernel
theorem dJ6_bitCount_0f7a4_25 : decode cJ6_bitCount_0f7a4 25 = .ok (.iload_n 0, 1) := by decide +kernel
theorem dJ6_bitCount_0f7a4_26 : decode cJ6_bitCount_0f7a4 26 = .ok (.iconst 4, 1) := by decide +kernel
theorem dJ6_bitCount_0f7a4_27 : decode cJ6_bitCount_0f7a4 27 = .ok (.iushr, 1) := by decide +kernel
theorem dJ6_bitCount_0f7a4_28 : decode cJ6_bitCount_0f7a4 28 = .ok (.iadd, 1) := by decide +kernel
theorem dJ6_bitCount_0f7a4_29 : decode cJ6_bitCount_0f7a4 29 = .ok (.ldc_w 267, 3) := by decide +kernel
theorem dJ6_bitCount_0f7a4_32 : decode cJ6_bitCount_0f7a4 32 = .ok (.iand, 1) := by decide +kernel
theorem dJ6_bitCount_0f7a4_33 : decode cJ6_bitCount_0f7a4 33 = .ok (.istore_n 0, 1) := by decide +kernel
theorem dJ6_bitCount_0f7a4_34 : decode cJ6_bitCount_0f7a4 34 = .ok (.iload_n 0, 1) := by decide +kernel
theorem dJ6_bitCount_0f7a4_35 : decode cJ6_bitCount_0f7a4 35 = .ok (.iload_n 0, 1) := by decide +kernel
theorem dJ6_bitCount_0f7a4_36 : decode cJ6_bitCount_0f7a4 36 = .ok (.bipush 8, 2) := by decide +kernel
theorem dJ6_bitCount_0f7a4_38 : decode cJ6_bitCount_0f7a4 38 = .ok (.iushr, 1) := by decide +kernel
theorem dJ6_bitCount_0f7a4_39 : decode cJ6_bitCount_0f7a4 39 = .ok (.iadd, 1) := by decide +kernel
theorem dJ6_bitCount_0f7a4_40 : decode cJ6_bitCount_0f7a4 40 = .ok (.istore_n 0, 1) := by decide +kernel
theorem dJ6_bitCount_0f7a4_41 : decode cJ6_bitCount_0f7a4 41 = .ok (.iload_n 0, 1) := by decide +kernel
theorem dJ6_bitCount_0f7a4_42 : decode cJ6_bitCount_0f7a4 42 = .ok (.iload_n 0, 1) := by decide +kernel
theorem dJ6_bitCount_0f7a4_43 : decode cJ6_bitCount_0f7a4 43 = .ok (.bipush 16, 2) := by decide +kernel
theorem dJ6_bitCount_0f7a4_45 : decode cJ6_bitCount_0f7a4 45 = .ok (.iushr, 1) := by decide +kernel
theorem dJ6_bitCount_0f7a4_46 : decode cJ6_bitCount_0f7a4 46 = .ok (.iadd, 1) := by decide +kernel
theorem dJ6_bitCount_0f7a4_47 : decode cJ6_bitCount_0f7a4 47 = .ok (.istore_n 0, 1) := by decide +kernel
theorem dJ6_bitCount_0f7a4_48 : decode cJ6_bitCount_0f7a4 48 = .ok (.iload_n 0, 1) := by decide +kernel
theorem dJ6_bitCount_0f7a4_49 : decode cJ6_bitCount_0f7a4 49 = .ok (.bipush 63, 2) := by decide +kernel
theorem dJ6_bitCount_0f7a4_51 : decode cJ6_bitCount_0f7a4 51 = .ok (.iand, 1) := by decide +kernel
theorem dJ6_bitCount_0f7a4_52 : decode cJ6_bitCount_0f7a4 52 = .ok (.ireturn, 1) := by decide +kernel
theorem dJ9_abs_0f7a4_0 : decode cJ9_abs_0f7a4 0 = .ok (.iload_n 0, 1) := by decide +kernel
theorem dJ9_abs_0f7a4_1 : decode cJ9_abs_0f7a4 1 = .ok (.ifCond .ge 8, 3) := by decide +kernel
theorem dJ9_abs_0f7a4_4 : decode cJ9_abs_0f7a4 4 = .ok (.iload_n 0, 1) := by decide +kernel
theorem dJ9_abs_0f7a4_5 : decode cJ9_abs_0f7a4 5 = .ok (.ineg, 1) := by decide +kernel
theorem dJ9_abs_0f7a4_6 : decode cJ9_abs_0f7a4 6 = .ok (.goto 4, 3) := by decide +kernel
theorem dJ9_abs_0f7a4_9 : decode cJ9_abs_0f7a4 9 = .ok (.iload_n 0, 1) := by decide +kernel
theorem dJ9_abs_0f7a4_10 : decode cJ9_abs_0f7a4 10 = .ok (.ireturn, 1) := by decide +kernel
theorem dJ9_max_7cf53_0 : decode cJ9_max_7cf53 0 = .ok (.iload_n 0, 1) := by decide +kernel
theorem dJ9_max_7cf53_1 : decode cJ9_max_7cf53 1 = .ok (.iload_n 1, 1) := by decide +kernel
theorem dJ9_max_7cf53_2 : decode cJ9_max_7cf53 2 = .ok (.if_icmp .lt 7, 3) := by decide +kernel
theorem dJ9_max_7cf53_5 : decode cJ9_max_7cf53 5 = .ok (.iload_n 0, 1) := by decide +kernel
theorem dJ9_max_7cf53_6 : decode cJ9_max_7cf53 6 = .ok (.goto 4, 3) := by decide +kernel
theorem dJ9_max_7cf53_9 : decode cJ9_max_7cf53 9 = .ok (.iload_n 1, 1) := by decide +kernel
theorem dJ9_max_7cf53_10 : decode cJ9_max_7cf53 10 = .ok (.ireturn, 1) := by decide +kernel
theorem dJ9_max_f86c9_0 : decode cJ9_max_f86c9 0 = .ok (.lload_n 0, 1) := by decide +kernel
theorem dJ9_max_f86c9_1 : decode cJ9_max_f86c9 1 = .ok (.lload_n 2, 1) := by decide +kernel
theorem dJ9_max_f86c9_2 : decode cJ9_max_f86c9 2 = .ok (.lcmp, 1) := by decide +kernel
theorem dJ9_max_f86c9_3 : decode cJ9_max_f86c9 3 = .ok (.ifCond .lt 7, 3) := by decide +kernel
theorem dJ9_max_f86c9_6 : decode cJ9_max_f86c9 6 = .ok (.lload_n 0, 1) := by decide +kernel
theorem dJ9_max_f86c9_7 : decode cJ9_max_f86c9 7 = .ok (.goto 4, 3) := by decide +kernel
theorem dJ9_max_f86c9_10 : decode cJ9_max_f86c9 10 = .ok (.lload_n 2, 1) := by decide +kernel
theorem dJ9_max_f86c9_11 : decode cJ9_max_f86c9 11 = .ok (.lreturn, 1) := by decide +kernel
theorem dJ9_min_7cf53_0 : decode cJ9_min_7cf53 0 = .ok (.iload_n 0, 1) := by decide +kernel
theorem dJ9_min_7cf53_1 : decode cJ9_min_7cf53 1 = .ok (.iload_n 1, 1) := by decide +kernel
theorem dJ9_min_7cf53_2 : decode cJ9_min_7cf53 2 = .ok (.if_icmp .gt 7, 3) := by decide +kernel
theorem dJ9_min_7cf53_5 : decode cJ9_min_7cf53 5 = .ok (.iload_n 0, 1) := by decide +kernel
theorem dJ9_min_7cf53_6 : decode cJ9_min_7cf53 6 = .ok (.goto 4, 3) := by decide +kernel
theorem dJ9_min_7cf53_9 : decode cJ9_min_7cf53 9 = .ok (.iload_n 1, 1) := by decide +kernel
theorem dJ9_min_7cf53_10 : decode cJ9_min_7cf53 10 = .ok (.ireturn, 1) := by decide +kernel
theorem dJ0_length_8abf5_0 : decode cJ0_length_8abf5 0 = .ok (.aload_n 0, 1) := by decide +kernel
theorem dJ0_length_8abf5_1 : decode cJ0_length_8abf5 1 = .ok (.getfield 9, 3) := by decide +kernel
theorem dJ0_length_8abf5_4 : decode cJ0_length_8abf5 4 = .ok (.arraylength, 1) := by decide +kernel
theorem dJ0_length_8abf5_5 : decode cJ0_length_8abf5 5 = .ok (.aload_n 0, 1) := by decide +kernel
theorem dJ0_length_8abf5_6 : decode cJ0_length_8abf5 6 = .ok (.invokevirtual 335, 3) := by decide +kernel
theorem dJ0_length_8abf5_9 : decode cJ0_length_8abf5 9 = .ok (.ishr, 1) := by decide +kernel
theorem dJ0_length_8abf5_10 : decode cJ0_length_8abf5 10 = .ok (.ireturn, 1) := by decide +kernel
theorem dJ0_charAt_5068e_0 : decode cJ0_charAt_5068e 0 = .ok (.aload_n 0, 1) := by decide +kernel
theorem dJ0_charAt_5068e_1 : decode cJ0_charAt_5068e 1 = .ok (.invokevirtual 492, 3) := by decide +kernel
theorem dJ0_charAt_5068e_4 : decode cJ0_charAt_5068e 4 = .ok (.ifCond .eq 12, 3) := by decide +kernel
theorem dJ0_charAt_5068e_7 : decode cJ0_charAt_5068e 7 = .ok (.aload_n 0, 1) := by decide +kernel
theorem dJ0_charAt_5068e_8 : decode cJ0_charAt_5068e 8 = .ok (.getfield 9, 3) := by decide +kernel
theorem dJ0_charAt_5068e_11 : decode cJ0_charAt_5068e 11 = .ok (.iload_n 1, 1) := by decide +kernel
theorem dJ0_charAt_5068e_12 : decode cJ0_charAt_5068e 12 = .ok (.invokestatic 495, 3) := by decide +kernel
theorem dJ0_charAt_5068e_15 : decode cJ0_charAt_5068e 15 = .ok (.ireturn, 1) := by decide +kernel
theorem dJ0_charAt_5068e_16 : decode cJ0_charAt_5068e 16 = .ok (.aload_n 0, 1) := by decide +kernel
theorem dJ0_charAt_5068e_17 : decode cJ0_charAt_5068e 17 = .ok (.getfield 9, 3) := by decide +kernel
theorem dJ0_charAt_5068e_20 : decode cJ0_charAt_5068e 20 = .ok (.iload_n 1, 1) := by decide +kernel
theorem dJ0_charAt_5068e_21 : decode cJ0_charAt_5068e 21 = .ok (.invokestatic 498, 3) := by decide +kernel
theorem dJ0_charAt_5068e_24 : decode cJ0_charAt_5068e 24 = .ok (.ireturn, 1) := by decide +kernel
theorem dJ0_coder_7d493_0 : decode cJ0_coder_7d493 0 = .ok (.getstatic 38, 3) := by decide +kernel
theorem dJ0_coder_7d493_3 : decode cJ0_coder_7d493 3 = .ok (.ifCond .eq 10, 3) := by decide +kernel
theorem dJ0_coder_7d493_6 : decode cJ0_coder_7d493 6 = .ok (.aload_n 0, 1) := by decide +kernel
theorem dJ0_coder_7d493_7 : decode cJ0_coder_7d493 7 = .ok (.getfield 15, 3) := by decide +kernel
theorem dJ0_coder_7d493_10 : decode cJ0_coder_7d493 10 = .ok (.goto 4, 3) := by decide +kernel
theorem dJ0_coder_7d493_13 : decode cJ0_coder_7d493 13 = .ok (.iconst 1, 1) := by decide +kernel
theorem dJ0_coder_7d493_14 : decode cJ0_coder_7d493 14 = .ok (.ireturn, 1) := by decide +kernel
theorem dJ0_isLatin1_aae02_0 : decode cJ0_isLatin1_aae02 0 = .ok (.getstatic 38, 3) := by decide +kernel
theorem dJ0_isLatin1_aae02_3 : decode cJ0_isLatin1_aae02 3 = .ok (.ifCond .eq 14, 3) := by decide +kernel
theorem dJ0_isLatin1_aae02_6 : decode cJ0_isLatin1_aae02 6 = .ok (.aload_n 0, 1) := by decide +kernel
theorem dJ0_isLatin1_aae02_7 : decode cJ0_isLatin1_aae02 7 = .ok (.getfield 15, 3) := by decide +kernel
theorem dJ0_isLatin1_aae02_10 : decode cJ0_isLatin1_aae02 10 = .ok (.ifCond .ne 7, 3) := by decide +kernel
theorem dJ0_isLatin1_aae02_13 : decode cJ0_isLatin1_aae02 13 = .ok (.iconst 1, 1) := by decide +kernel
theorem dJ0_isLatin1_aae02_14 : decode cJ0_isLatin1_aae02 14 = .ok (.goto 4, 3) := by decide +kernel
theorem dJ0_isLatin1_aae02_17 : decode cJ0_isLatin1_aae02 17 = .ok (.iconst 0, 1) := by decide +kernel
theorem dJ0_isLatin1_aae02_18 : decode cJ0_isLatin1_aae02 18 = .ok (.ireturn, 1) := by decide +kernel
theorem dJ0_checkIndex_df160_0 : decode cJ0_checkIndex_df160 0 = .ok (.iload_n 0, 1) := by decide +kernel
theorem dJ0_checkIndex_df160_1 : decode cJ0_checkIndex_df160 1 = .ok (.iload_n 1, 1) := by decide +kernel
theorem dJ0_checkIndex_df160_2 : decode cJ0_checkIndex_df160 2 = .ok (.getstatic 1053, 3) := by decide +kernel
theorem dJ0_checkIndex_df160_5 : decode cJ0_checkIndex_df160 5 = .ok (.invokestatic 1059, 3) := by decide +kernel
theorem dJ0_checkIndex_df160_8 : decode cJ0_checkIndex_df160 8 = .ok (.pop, 1) := by decide +kernel
theorem dJ0_checkIndex_df160_9 : decode cJ0_checkIndex_df160 9 = .ok (.return_, 1) := by decide +kernel
theorem dJ1_charAt_3b067_0 : decode cJ1_charAt_3b067 0 = .ok (.iload_n 1, 1) := by decide +kernel
theorem dJ1_charAt_3b067_1 : decode cJ1_charAt_3b067 1 = .ok (.aload_n 0, 1) := by decide +kernel
theorem dJ1_charAt_3b067_2 : decode cJ1_charAt_3b067 2 = .ok (.arraylength, 1) := by decide +kernel
theorem dJ1_charAt_3b067_3 : decode cJ1_charAt_3b067 3 = .ok (.invokestatic 9, 3) := by decide +kernel
theorem dJ1_charAt_3b067_6 : decode cJ1_charAt_3b067 6 = .ok (.aload_n 0, 1) := by decide +kernel
theorem dJ1_charAt_3b067_7 : decode cJ1_charAt_3b067 7 = .ok (.iload_n 1, 1) := by decide +kernel
theorem dJ1_charAt_3b067_8 : decode cJ1_charAt_3b067 8 = .ok (.baload, 1) := by decide +kernel
theorem dJ1_charAt_3b067_9 : decode cJ1_charAt_3b067 9 = .ok (.sipush 255, 3) := by decide +kernel
theorem dJ1_charAt_3b067_12 : decode cJ1_charAt_3b067 12 = .ok (.iand, 1) := by decide +kernel
theorem dJ1_charAt_3b067_13 : decode cJ1_charAt_3b067 13 = .ok (.i2c, 1) := by decide +kernel
theorem dJ1_charAt_3b067_14 : decode cJ1_charAt_3b067 14 = .ok (.ireturn, 1) := by decide +kernel
theorem dJ2_getChar_3b067_0 : decode cJ2_getChar_3b067 0 = .ok (.getstatic 44, 3) := by decide +kernel
theorem dJ2_getChar_3b067_3 : decode cJ2_getChar_3b067 3 = .ok (.ifCond .ne 25, 3) := by decide +kernel
theorem dJ2_getChar_3b067_6 : decode cJ2_getChar_3b067 6 = .ok (.iload_n 1, 1) := by decide +kernel
theorem dJ2_getChar_3b067_7 : decode cJ2_getChar_3b067 7 = .ok (.ifCond .lt 11, 3) := by decide +kernel
theorem dJ2_getChar_3b067_10 : decode cJ2_getChar_3b067 10 = .ok (.iload_n 1, 1) := by decide +kernel
theorem dJ2_getChar_3b067_11 : decode cJ2_getChar_3b067 11 = .ok (.aload_n 0, 1) := by decide +kernel
theorem dJ2_getChar_3b067_12 : decode cJ2_getChar_3b067 12 = .ok (.invokestatic 48, 3) := by decide +kernel
theorem dJ2_getChar_3b067_15 : decode cJ2_getChar_3b067 15 = .ok (.if_icmp .lt 13, 3) := by decide +kernel
theorem dJ2_getChar_3b067_18 : decode cJ2_getChar_3b067 18 = .ok (.new 52, 3) := by decide +kernel
theorem dJ2_getChar_3b067_21 : decode cJ2_getChar_3b067 21 = .ok (.dup, 1) := by decide +kernel
theorem dJ2_getChar_3b067_22 : decode cJ2_getChar_3b067 22 = .ok (.ldc 54, 2) := by decide +kernel
theorem dJ2_getChar_3b067_24 : decode cJ2_getChar_3b067 24 = .ok (.invokespecial 56, 3) := by decide +kernel
theorem dJ2_getChar_3b067_27 : decode cJ2_getChar_3b067 27 = .ok (.athrow, 1) := by decide +kernel
theorem dJ2_getChar_3b067_28 : decode cJ2_getChar_3b067 28 = .ok (.iload_n 1, 1) := by decide +kernel
theorem dJ2_getChar_3b067_29 : decode cJ2_getChar_3b067 29 = .ok (.iconst 1, 1) := by decide +kernel
theorem dJ2_getChar_3b067_30 : decode cJ2_getChar_3b067 30 = .ok (.ishl, 1) := by decide +kernel
theorem dJ2_getChar_3b067_31 : decode cJ2_getChar_3b067 31 = .ok (.istore_n 1, 1) := by decide +kernel
theorem dJ2_getChar_3b067_32 : decode cJ2_getChar_3b067 32 = .ok (.aload_n 0, 1) := by decide +kernel
theorem dJ2_getChar_3b067_33 : decode cJ2_getChar_3b067 33 = .ok (.iload_n 1, 1) := by decide +kernel
theorem dJ2_getChar_3b067_34 : decode cJ2_getChar_3b067 34 = .ok (.iinc 1 1, 3) := by decide +kernel
theorem dJ2_getChar_3b067_37 : decode cJ2_getChar_3b067 37 = .ok (.baload, 1) := by decide +kernel
theorem dJ2_getChar_3b067_38 : decode cJ2_getChar_3b067 38 = .ok (.sipush 255, 3) := by decide +kernel
theorem dJ2_getChar_3b067_41 : decode cJ2_getChar_3b067 41 = .ok (.iand, 1) := by decide +kernel
theorem dJ2_getChar_3b067_42 : decode cJ2_getChar_3b067 42 = .ok (.getstatic 59, 3) := by decide +kernel
theorem dJ2_getChar_3b067_45 : decode cJ2_getChar_3b067 45 = .ok (.ishl, 1) := by decide +kernel
theorem dJ2_getChar_3b067_46 : decode cJ2_getChar_3b067 46 = .ok (.aload_n 0, 1) := by decide +kernel
theorem dJ2_getChar_3b067_47 : decode cJ2_getChar_3b067 47 = .ok (.iload_n 1, 1) := by decide +kernel
theorem dJ2_getChar_3b067_48 : decode cJ2_getChar_3b067 48 = .ok (.baload, 1) := by decide +kernel
theorem dJ2_getChar_3b067_49 : decode cJ2_getChar_3b067 49 = .ok (.sipush 255, 3) := by decide +kernel
theorem dJ2_getChar_3b067_52 : decode cJ2_getChar_3b067 52 = .ok (.iand, 1) := by decide +kernel
theorem dJ2_getChar_3b067_53 : decode cJ2_getChar_3b067 53 = .ok (.getstatic 63, 3) := by decide +kernel
theorem dJ2_getChar_3b067_56 : decode cJ2_getChar_3b067 56 = .ok (.ishl, 1) := by decide +kernel
theorem dJ2_getChar_3b067_57 : decode cJ2_getChar_3b067 57 = .ok (.ior, 1) := by decide +kernel
theorem dJ2_getChar_3b067_58 : decode cJ2_getChar_3b067 58 = .ok (.i2c, 1) := by decide +kernel
theorem dJ2_getChar_3b067_59 : decode cJ2_getChar_3b067 59 = .ok (.ireturn, 1) := by decide +kernel
theorem dJ2_length_9d52b_0 : decode cJ2_length_9d52b 0 = .ok (.aload_n 0, 1) := by decide +kernel
theorem dJ2_length_9d52b_1 : decode cJ2_length_9d52b 1 = .ok (.arraylength, 1) := by decide +kernel
theorem dJ2_length_9d52b_2 : decode cJ2_length_9d52b 2 = .ok (.iconst 1, 1) := by decide +kernel
theorem dJ2_length_9d52b_3 : decode cJ2_length_9d52b 3 = .ok (.ishr, 1) := by decide +kernel
theorem dJ2_length_9d52b_4 : decode cJ2_length_9d52b 4 = .ok (.ireturn, 1) := by decide +kernel
theorem dJ2_charAt_3b067_0 : decode cJ2_charAt_3b067 0 = .ok (.iload_n 1, 1) := by decide +kernel
theorem dJ2_charAt_3b067_1 : decode cJ2_charAt_3b067 1 = .ok (.aload_n 0, 1) := by decide +kernel
theorem dJ2_charAt_3b067_2 : decode cJ2_charAt_3b067 2 = .ok (.invokestatic 67, 3) := by decide +kernel
theorem dJ2_charAt_3b067_5 : decode cJ2_charAt_3b067 5 = .ok (.aload_n 0, 1) := by decide +kernel
theorem dJ2_charAt_3b067_6 : decode cJ2_charAt_3b067 6 = .ok (.iload_n 1, 1) := by decide +kernel
theorem dJ2_charAt_3b067_7 : decode cJ2_charAt_3b067 7 = .ok (.invokestatic 71, 3) := by decide +kernel
theorem dJ2_charAt_3b067_10 : decode cJ2_charAt_3b067 10 = .ok (.ireturn, 1) := by decide +kernel
theorem dJ2_checkIndex_2214a_0 : decode cJ2_checkIndex_2214a 0 = .ok (.iload_n 0, 1) := by decide +kernel
theorem dJ2_checkIndex_2214a_1 : decode cJ2_checkIndex_2214a 1 = .ok (.aload_n 1, 1) := by decide +kernel
theorem dJ2_checkIndex_2214a_2 : decode cJ2_checkIndex_2214a 2 = .ok (.invokestatic 48, 3) := by decide +kernel
theorem dJ2_checkIndex_2214a_5 : decode cJ2_checkIndex_2214a 5 = .ok (.invokestatic 414, 3) := by decide +kernel
theorem dJ2_checkIndex_2214a_8 : decode cJ2_checkIndex_2214a 8 = .ok (.return_, 1) := by decide +kernel
theorem dJ7_fill_53178_0 : decode cJ7_fill_53178 0 = .ok (.iconst 0, 1) := by decide +kernel
theorem dJ7_fill_53178_1 : decode cJ7_fill_53178 1 = .ok (.istore_n 2, 1) := by decide +kernel
theorem dJ7_fill_53178_2 : decode cJ7_fill_53178 2 = .ok (.aload_n 0, 1) := by decide +kernel
theorem dJ7_fill_53178_3 : decode cJ7_fill_53178 3 = .ok (.arraylength, 1) := by decide +kernel
theorem dJ7_fill_53178_4 : decode cJ7_fill_53178 4 = .ok (.istore_n 3, 1) := by decide +kernel
theorem dJ7_fill_53178_5 : decode cJ7_fill_53178 5 = .ok (.iload_n 2, 1) := by decide +kernel
theorem dJ7_fill_53178_6 : decode cJ7_fill_53178 6 = .ok (.iload_n 3, 1) := by decide +kernel
theorem dJ7_fill_53178_7 : decode cJ7_fill_53178 7 = .ok (.if_icmp .ge 13, 3) := by decide +kernel
theorem dJ7_fill_53178_10 : decode cJ7_fill_53178 10 = .ok (.aload_n 0, 1) := by decide +kernel
theorem dJ7_fill_53178_11 : decode cJ7_fill_53178 11 = .ok (.iload_n 2, 1) := by decide +kernel
theorem dJ7_fill_53178_12 : decode cJ7_fill_53178 12 = .ok (.iload_n 1, 1) := by decide +kernel
theorem dJ7_fill_53178_13 : decode cJ7_fill_53178 13 = .ok (.iastore, 1) := by decide +kernel
theorem dJ7_fill_53178_14 : decode cJ7_fill_53178 14 = .ok (.iinc 2 1, 3) := by decide +kernel
theorem dJ7_fill_53178_17 : decode cJ7_fill_53178 17 = .ok (.goto (-12), 3) := by decide +kernel
theorem dJ7_fill_53178_20 : decode cJ7_fill_53178 20 = .ok (.return_, 1) := by decide +kernel
theorem dJ3_checkIndex_8e157_0 : decode cJ3_checkIndex_8e157 0 = .ok (.iload_n 0, 1) := by decide +kernel
theorem dJ3_checkIndex_8e157_1 : decode cJ3_checkIndex_8e157 1 = .ok (.ifCond .lt 8, 3) := by decide +kernel
theorem dJ3_checkIndex_8e157_4 : decode cJ3_checkIndex_8e157 4 = .ok (.iload_n 0, 1) := by decide +kernel
theorem dJ3_checkIndex_8e157_5 : decode cJ3_checkIndex_8e157 5 = .ok (.iload_n 1, 1) := by decide +kernel
theorem dJ3_checkIndex_8e157_6 : decode cJ3_checkIndex_8e157 6 = .ok (.if_icmp .lt 10, 3) := by decide +kernel
theorem dJ3_checkIndex_8e157_9 : decode cJ3_checkIndex_8e157 9 = .ok (.aload_n 2, 1) := by decide +kernel
theorem dJ3_checkIndex_8e157_10 : decode cJ3_checkIndex_8e157 10 = .ok (.iload_n 0, 1) := by decide +kernel
theorem dJ3_checkIndex_8e157_11 : decode cJ3_checkIndex_8e157 11 = .ok (.iload_n 1, 1) := by decide +kernel
theorem dJ3_checkIndex_8e157_12 : decode cJ3_checkIndex_8e157 12 = .ok (.invokestatic 95, 3) := by decide +kernel
theorem dJ3_checkIndex_8e157_15 : decode cJ3_checkIndex_8e157 15 = .ok (.athrow, 1) := by decide +kernel
theorem dJ3_checkIndex_8e157_16 : decode cJ3_checkIndex_8e157 16 = .ok (.iload_n 0, 1) := by decide +kernel
theorem dJ3_checkIndex_8e157_17 : decode cJ3_checkIndex_8e157 17 = .ok (.ireturn, 1) := by decide +kernel
end
section
theorem dX6_init_0 : decode cX6_init 0 = .ok (.aload_n 0, 1) := by decide +kernel
theorem dX6_init_1 : decode cX6_init 1 = .ok (.invokespecial 1, 3) := by decide +kernel
theorem dX6_init_4 : decode cX6_init 4 = .ok (.aload_n 0, 1) := by decide +kernel
theorem dX6_init_5 : decode cX6_init 5 = .ok (.new 7, 3) := by decide +kernel
theorem dX6_init_8 : decode cX6_init 8 = .ok (.dup, 1) := by decide +kernel
theorem dX6_init_9 : decode cX6_init 9 = .ok (.invokespecial 9, 3) := by decide +kernel
theorem dX6_init_12 : decode cX6_init 12 = .ok (.putfield 10, 3) := by decide +kernel
theorem dX6_init_15 : decode cX6_init 15 = .ok (.aload_n 0, 1) := by decide +kernel
theorem dX6_init_16 : decode cX6_init 16 = .ok (.new 16, 3) := by decide +kernel
theorem dX6_init_19 : decode cX6_init 19 = .ok (.dup, 1) := by decide +kernel
theorem dX6_init_20 : decode cX6_init 20 = .ok (.invokespecial 18, 3) := by decide +kernel
theorem dX6_init_23 : decode cX6_init 23 = .ok (.putfield 19, 3) := by decide +kernel
theorem dX6_init_26 : decode cX6_init 26 = .ok (.aload_n 0, 1) := by decide +kernel
theorem dX6_init_27 : decode cX6_init 27 = .ok (.new 7, 3) := by decide +kernel
theorem dX6_init_30 : decode cX6_init 30 = .ok (.dup, 1) := by decide +kernel
theorem dX6_init_31 : decode cX6_init 31 = .ok (.invokespecial 9, 3) := by decide +kernel
theorem dX6_init_34 : decode cX6_init 34 = .ok (.putfield 23, 3) := by decide +kernel
theorem dX6_init_37 : decode cX6_init 37 = .ok (.aload_n 0, 1) := by decide +kernel
theorem dX6_init_38 : decode cX6_init 38 = .ok (.bipush 9, 2) := by decide +kernel
theorem dX6_init_40 : decode cX6_init 40 = .ok (.anewarray 7, 3) := by decide +kernel
theorem dX6_init_43 : decode cX6_init 43 = .ok (.putfield 26, 3) := by decide +kernel
theorem dX6_init_46 : decode cX6_init 46 = .ok (.aload_n 0, 1) := by decide +kernel
theorem dX6_init_47 : decode cX6_init 47 = .ok (.new 30, 3) := by decide +kernel
theorem dX6_init_50 : decode cX6_init 50 = .ok (.dup, 1) := by decide +kernel
theorem dX6_init_51 : decode cX6_init 51 = .ok (.invokespecial 32, 3) := by decide +kernel
theorem dX6_init_54 : decode cX6_init 54 = .ok (.putfield 33, 3) := by decide +kernel
theorem dX6_init_57 : decode cX6_init 57 = .ok (.aload_n 0, 1) := by decide +kernel
theorem dX6_init_58 : decode cX6_init 58 = .ok (.new 37, 3) := by decide +kernel
theorem dX6_init_61 : decode cX6_init 61 = .ok (.dup, 1) := by decide +kernel
theorem dX6_init_62 : decode cX6_init 62 = .ok (.aload_n 0, 1) := by decide +kernel
theorem dX6_init_63 : decode cX6_init 63 = .ok (.getfield 33, 3) := by decide +kernel
theorem dX6_init_66 : decode cX6_init 66 = .ok (.aload_n 0, 1) := by decide +kernel
theorem dX6_init_67 : decode cX6_init 67 = .ok (.getfield 23, 3) := by decide +kernel
theorem dX6_init_70 : decode cX6_init 70 = .ok (.invokespecial 39, 3) := by decide +kernel
theorem dX6_init_73 : decode cX6_init 73 = .ok (.putfield 42, 3) := by decide +kernel
theorem dX6_init_76 : decode cX6_init 76 = .ok (.aload_n 0, 1) := by decide +kernel
theorem dX6_init_77 : decode cX6_init 77 = .ok (.iconst 2, 1) := by decide +kernel
theorem dX6_init_78 : decode cX6_init 78 = .ok (.anewarray 46, 3) := by decide +kernel
theorem dX6_init_81 : decode cX6_init 81 = .ok (.putfield 48, 3) := by decide +kernel
theorem dX6_init_84 : decode cX6_init 84 = .ok (.aload_n 0, 1) := by decide +kernel
theorem dX6_init_85 : decode cX6_init 85 = .ok (.iconst 4, 1) := by decide +kernel
theorem dX6_init_86 : decode cX6_init 86 = .ok (.anewarray 52, 3) := by decide +kernel
theorem dX6_init_89 : decode cX6_init 89 = .ok (.putfield 54, 3) := by decide +kernel
theorem dX6_init_92 : decode cX6_init 92 = .ok (.iconst 0, 1) := by decide +kernel
theorem dX6_init_93 : decode cX6_init 93 = .ok (.istore_n 1, 1) := by decide +kernel
theorem dX6_init_94 : decode cX6_init 94 = .ok (.iload_n 1, 1) := by decide +kernel
theorem dX6_init_95 : decode cX6_init 95 = .ok (.aload_n 0, 1) := by decide +kernel
theorem dX6_init_96 : decode cX6_init 96 = .ok (.getfield 26, 3) := by decide +kernel
theorem dX6_init_99 : decode cX6_init 99 = .ok (.arraylength, 1) := by decide +kernel
theorem dX6_init_100 : decode cX6_init 100 = .ok (.if_icmp .ge 22, 3) := by decide +kernel
theorem dX6_init_103 : decode cX6_init 103 = .ok (.aload_n 0, 1) := by decide +kernel
theorem dX6_init_104 : decode cX6_init 104 = .ok (.getfield 26, 3) := by decide +kernel
theorem dX6_init_107 : decode cX6_init 107 = .ok (.iload_n 1, 1) := by decide +kernel
theorem dX6_init_108 : decode cX6_init 108 = .ok (.new 7, 3) := by decide +kernel
theorem dX6_init_111 : decode cX6_init 111 = .ok (.dup, 1) := by decide +kernel
theorem dX6_init_112 : decode cX6_init 112 = .ok (.invokespecial 9, 3) := by decide +kernel
theorem dX6_init_115 : decode cX6_init 115 = .ok (.aastore, 1) := by decide +kernel
theorem dX6_init_116 : decode cX6_init 116 = .ok (.iinc 1 1, 3) := by decide +kernel
theorem dX6_init_119 : decode cX6_init 119 = .ok (.goto (-25), 3) := by decide +kernel
theorem dX6_init_122 : decode cX6_init 122 = .ok (.iconst 0, 1) := by decide +kernel
theorem dX6_init_123 : decode cX6_init 123 = .ok (.istore_n 1, 1) := by decide +kernel
theorem dX6_init_124 : decode cX6_init 124 = .ok (.iload_n 1, 1) := by decide +kernel
theorem dX6_init_125 : decode cX6_init 125 = .ok (.aload_n 0, 1) := by decide +kernel
theorem dX6_init_126 : decode cX6_init 126 = .ok (.getfield 48, 3) := by decide +kernel
theorem dX6_init_129 : decode cX6_init 129 = .ok (.arraylength, 1) := by decide +kernel
theorem dX6_init_130 : decode cX6_init 130 = .ok (.if_icmp .ge 22, 3) := by decide +kernel
theorem dX6_init_133 : decode cX6_init 133 = .ok (.aload_n 0, 1) := by decide +kernel
theorem dX6_init_134 : decode cX6_init 134 = .ok (.getfield 48, 3) := by decide +kernel
theorem dX6_init_137 : decode cX6_init 137 = .ok (.iload_n 1, 1) := by decide +kernel
theorem dX6_init_138 : decode cX6_init 138 = .ok (.new 46, 3) := by decide +kernel
theorem dX6_init_141 : decode cX6_init 141 = .ok (.dup, 1) := by decide +kernel
theorem dX6_init_142 : decode cX6_init 142 = .ok (.invokespecial 58, 3) := by decide +kernel
theorem dX6_init_145 : decode cX6_init 145 = .ok (.aastore, 1) := by decide +kernel
theorem dX6_init_146 : decode cX6_init 146 = .ok (.iinc 1 1, 3) := by decide +kernel
theorem dX6_init_149 : decode cX6_init 149 = .ok (.goto (-25), 3) := by decide +kernel
theorem dX6_init_152 : decode cX6_init 152 = .ok (.iconst 0, 1) := by decide +kernel
theorem dX6_init_153 : decode cX6_init 153 = .ok (.istore_n 1, 1) := by decide +kernel
theorem dX6_init_154 : decode cX6_init 154 = .ok (.iload_n 1, 1) := by decide +kernel
theorem dX6_init_155 : decode cX6_init 155 = .ok (.aload_n 0, 1) := by decide +kernel
theorem dX6_init_156 : decode cX6_init 156 = .ok (.getfield 54, 3) := by decide +kernel
theorem dX6_init_159 : decode cX6_init 159 = .ok (.arraylength, 1) := by decide +kernel
theorem dX6_init_160 : decode cX6_init 160 = .ok (.if_icmp .ge 22, 3) := by decide +kernel
theorem dX6_init_163 : decode cX6_init 163 = .ok (.aload_n 0, 1) := by decide +kernel
theorem dX6_init_164 : decode cX6_init 164 = .ok (.getfield 54, 3) := by decide +kernel
theorem dX6_init_167 : decode cX6_init 167 = .ok (.iload_n 1, 1) := by decide +kernel
theorem dX6_init_168 : decode cX6_init 168 = .ok (.new 52, 3) := by decide +kernel
theorem dX6_init_171 : decode cX6_init 171 = .ok (.dup, 1) := by decide +kernel
theorem dX6_init_172 : decode cX6_init 172 = .ok (.invokespecial 59, 3) := by decide +kernel
theorem dX6_init_175 : decode cX6_init 175 = .ok (.aastore, 1) := by decide +kernel
theorem dX6_init_176 : decode cX6_init 176 = .ok (.iinc 1 1, 3) := by decide +kernel
theorem dX6_init_179 : decode cX6_init 179 = .ok (.goto (-25), 3) := by decide +kernel
theorem dX6_init_182 : decode cX6_init 182 = .ok (.return_, 1) := by decide +kernel
theorem dX6_feed_0 : decode cX6_feed 0 = .ok (.iload_n 1, 1) := by decide +kernel
theorem dX6_feed_1 : decode cX6_feed 1 = .ok (.bipush 127, 2) := by decide +kernel
theorem dX6_feed_3 : decode cX6_feed 3 = .ok (.invokestatic 60, 3) := by decide +kernel
theorem dX6_feed_6 : decode cX6_feed 6 = .ok (.ifCond .ne 5, 3) := by decide +kernel
theorem dX6_feed_9 : decode cX6_feed 9 = .ok (.iconst (-1), 1) := by decide +kernel
theorem dX6_feed_10 : decode cX6_feed 10 = .ok (.ireturn, 1) := by decide +kernel
theorem dX6_feed_11 : decode cX6_feed 11 = .ok (.aload_n 0, 1) := by decide +kernel
theorem dX6_feed_12 : decode cX6_feed 12 = .ok (.getfield 33, 3) := by decide +kernel
theorem dX6_feed_15 : decode cX6_feed 15 = .ok (.getfield 64, 3) := by decide +kernel
theorem dX6_feed_18 : decode cX6_feed 18 = .ok (.sipush 160, 3) := by decide +kernel
theorem dX6_feed_21 : decode cX6_feed 21 = .ok (.if_icmp .lt 6, 3) := by decide +kernel
theorem dX6_feed_24 : decode cX6_feed 24 = .ok (.bipush (-3), 2) := by decide +kernel
theorem dX6_feed_26 : decode cX6_feed 26 = .ok (.ireturn, 1) := by decide +kernel
theorem dX6_feed_27 : decode cX6_feed 27 = .ok (.aload_n 0, 1) := by decide +kernel
theorem dX6_feed_28 : decode cX6_feed 28 = .ok (.getfield 33, 3) := by decide +kernel
theorem dX6_feed_31 : decode cX6_feed 31 = .ok (.getfield 68, 3) := by decide +kernel
theorem dX6_feed_34 : decode cX6_feed 34 = .ok (.aload_n 0, 1) := by decide +kernel
theorem dX6_feed_35 : decode cX6_feed 35 = .ok (.getfield 33, 3) := by decide +kernel
theorem dX6_feed_38 : decode cX6_feed 38 = .ok (.getfield 64, 3) := by decide +kernel
theorem dX6_feed_41 : decode cX6_feed 41 = .ok (.iload_n 1, 1) := by decide +kernel
theorem dX6_feed_42 : decode cX6_feed 42 = .ok (.i2b, 1) := by decide +kernel
theorem dX6_feed_43 : decode cX6_feed 43 = .ok (.bastore, 1) := by decide +kernel
theorem dX6_feed_44 : decode cX6_feed 44 = .ok (.aload_n 0, 1) := by decide +kernel
theorem dX6_feed_45 : decode cX6_feed 45 = .ok (.getfield 33, 3) := by decide +kernel
theorem dX6_feed_48 : decode cX6_feed 48 = .ok (.dup, 1) := by decide +kernel
theorem dX6_feed_49 : decode cX6_feed 49 = .ok (.getfield 64, 3) := by decide +kernel
theorem dX6_feed_52 : decode cX6_feed 52 = .ok (.iconst 1, 1) := by decide +kernel
theorem dX6_feed_53 : decode cX6_feed 53 = .ok (.iadd, 1) := by decide +kernel
theorem dX6_feed_54 : decode cX6_feed 54 = .ok (.putfield 64, 3) := by decide +kernel
theorem dX6_feed_57 : decode cX6_feed 57 = .ok (.aload_n 0, 1) := by decide +kernel
theorem dX6_feed_58 : decode cX6_feed 58 = .ok (.getfield 33, 3) := by decide +kernel
theorem dX6_feed_61 : decode cX6_feed 61 = .ok (.getfield 64, 3) := by decide +kernel
theorem dX6_feed_64 : decode cX6_feed 64 = .ok (.ireturn, 1) := by decide +kernel
theorem dX6_end_0 : decode cX6_end 0 = .ok (.iload_n 1, 1) := by decide +kernel
theorem dX6_end_1 : decode cX6_end 1 = .ok (.aload_n 0, 1) := by decide +kernel
theorem dX6_end_2 : decode cX6_end 2 = .ok (.getfield 33, 3) := by decide +kernel
theorem dX6_end_5 : decode cX6_end 5 = .ok (.getfield 64, 3) := by decide +kernel
theorem dX6_end_8 : decode cX6_end 8 = .ok (.invokestatic 60, 3) := by decide +kernel
theorem dX6_end_11 : decode cX6_end 11 = .ok (.ifCond .ne 5, 3) := by decide +kernel
theorem dX6_end_14 : decode cX6_end 14 = .ok (.iconst (-1), 1) := by decide +kernel
theorem dX6_end_15 : decode cX6_end 15 = .ok (.ireturn, 1) := by decide +kernel
theorem dX6_end_16 : decode cX6_end 16 = .ok (.aload_n 0, 1) := by decide +kernel
theorem dX6_end_17 : decode cX6_end 17 = .ok (.getfield 33, 3) := by decide +kernel
theorem dX6_end_20 : decode cX6_end 20 = .ok (.getfield 64, 3) := by decide +kernel
theorem dX6_end_23 : decode cX6_end 23 = .ok (.istore_n 2, 1) := by decide +kernel
theorem dX6_end_24 : decode cX6_end 24 = .ok (.aload_n 0, 1) := by decide +kernel
theorem dX6_end_25 : decode cX6_end 25 = .ok (.getfield 33, 3) := by decide +kernel
theorem dX6_end_28 : decode cX6_end 28 = .ok (.iload_n 1, 1) := by decide +kernel
theorem dX6_end_29 : decode cX6_end 29 = .ok (.putfield 64, 3) := by decide +kernel
theorem dX6_end_32 : decode cX6_end 32 = .ok (.iload_n 2, 1) := by decide +kernel
theorem dX6_end_33 : decode cX6_end 33 = .ok (.ireturn, 1) := by decide +kernel
theorem dX6_text_0 : decode cX6_text 0 = .ok (.aload_n 0, 1) := by decide +kernel
theorem dX6_text_1 : decode cX6_text 1 = .ok (.getfield 42, 3) := by decide +kernel
theorem dX6_text_4 : decode cX6_text 4 = .ok (.invokevirtual 72, 3) := by decide +kernel
theorem dX6_text_7 : decode cX6_text 7 = .ok (.istore_n 1, 1) := by decide +kernel
theorem dX6_text_8 : decode cX6_text 8 = .ok (.aload_n 0, 1) := by decide +kernel
theorem dX6_text_9 : decode cX6_text 9 = .ok (.getfield 33, 3) := by decide +kernel
theorem dX6_text_12 : decode cX6_text 12 = .ok (.iconst 0, 1) := by decide +kernel
theorem dX6_text_13 : decode cX6_text 13 = .ok (.putfield 64, 3) := by decide +kernel
theorem dX6_text_16 : decode cX6_text 16 = .ok (.aload_n 0, 1) := by decide +kernel
theorem dX6_text_17 : decode cX6_text 17 = .ok (.aload_n 0, 1) := by decide +kernel
theorem dX6_text_18 : decode cX6_text 18 = .ok (.getfield 42, 3) := by decide +kernel
theorem dX6_text_21 : decode cX6_text 21 = .ok (.getfield 76, 3) := by decide +kernel
theorem dX6_text_24 : decode cX6_text 24 = .ok (.putfield 79, 3) := by decide +kernel
theorem dX6_text_27 : decode cX6_text 27 = .ok (.iload_n 1, 1) := by decide +kernel
theorem dX6_text_28 : decode cX6_text 28 = .ok (.ifCond .ne 14, 3) := by decide +kernel
theorem dX6_text_31 : decode cX6_text 31 = .ok (.bipush (-10), 2) := by decide +kernel
theorem dX6_text_33 : decode cX6_text 33 = .ok (.aload_n 0, 1) := by decide +kernel
theorem dX6_text_34 : decode cX6_text 34 = .ok (.getfield 42, 3) := by decide +kernel
theorem dX6_text_37 : decode cX6_text 37 = .ok (.getfield 82, 3) := by decide +kernel
theorem dX6_text_40 : decode cX6_text 40 = .ok (.isub, 1) := by decide +kernel
theorem dX6_text_41 : decode cX6_text 41 = .ok (.ireturn, 1) := by decide +kernel
theorem dX6_text_42 : decode cX6_text 42 = .ok (.aload_n 0, 1) := by decide +kernel
theorem dX6_text_43 : decode cX6_text 43 = .ok (.getfield 10, 3) := by decide +kernel
theorem dX6_text_46 : decode cX6_text 46 = .ok (.aload_n 0, 1) := by decide +kernel
theorem dX6_text_47 : decode cX6_text 47 = .ok (.getfield 23, 3) := by decide +kernel
theorem dX6_text_50 : decode cX6_text 50 = .ok (.invokevirtual 85, 3) := by decide +kernel
theorem dX6_text_53 : decode cX6_text 53 = .ok (.aload_n 0, 1) := by decide +kernel
theorem dX6_text_54 : decode cX6_text 54 = .ok (.getfield 19, 3) := by decide +kernel
theorem dX6_text_57 : decode cX6_text 57 = .ok (.iconst 0, 1) := by decide +kernel
theorem dX6_text_58 : decode cX6_text 58 = .ok (.putfield 89, 3) := by decide +kernel
theorem dX6_text_61 : decode cX6_text 61 = .ok (.iconst 0, 1) := by decide +kernel
theorem dX6_text_62 : decode cX6_text 62 = .ok (.istore_n 2, 1) := by decide +kernel
theorem dX6_text_63 : decode cX6_text 63 = .ok (.iload_n 2, 1) := by decide +kernel
theorem dX6_text_64 : decode cX6_text 64 = .ok (.aload_n 0, 1) := by decide +kernel
theorem dX6_text_65 : decode cX6_text 65 = .ok (.getfield 48, 3) := by decide +kernel
theorem dX6_text_68 : decode cX6_text 68 = .ok (.arraylength, 1) := by decide +kernel
theorem dX6_text_69 : decode cX6_text 69 = .ok (.if_icmp .ge 19, 3) := by decide +kernel
theorem dX6_text_72 : decode cX6_text 72 = .ok (.aload_n 0, 1) := by decide +kernel
theorem dX6_text_73 : decode cX6_text 73 = .ok (.getfield 48, 3) := by decide +kernel
theorem dX6_text_76 : decode cX6_text 76 = .ok (.iload_n 2, 1) := by decide +kernel
theorem dX6_text_77 : decode cX6_text 77 = .ok (.aaload, 1) := by decide +kernel
theorem dX6_text_78 : decode cX6_text 78 = .ok (.iconst 0, 1) := by decide +kernel
theorem dX6_text_79 : decode cX6_text 79 = .ok (.putfield 92, 3) := by decide +kernel
theorem dX6_text_82 : decode cX6_text 82 = .ok (.iinc 2 1, 3) := by decide +kernel
theorem dX6_text_85 : decode cX6_text 85 = .ok (.goto (-22), 3) := by decide +kernel
theorem dX6_text_88 : decode cX6_text 88 = .ok (.aload_n 0, 1) := by decide +kernel
theorem dX6_text_89 : decode cX6_text 89 = .ok (.getfield 42, 3) := by decide +kernel
theorem dX6_text_92 : decode cX6_text 92 = .ok (.getfield 96, 3) := by decide +kernel
theorem dX6_text_95 : decode cX6_text 95 = .ok (.ireturn, 1) := by decide +kernel
theorem dX6_fault_0 : decode cX6_fault 0 = .ok (.aload_n 0, 1) := by decide +kernel
theorem dX6_fault_1 : decode cX6_fault 1 = .ok (.getfield 79, 3) := by decide +kernel
theorem dX6_fault_4 : decode cX6_fault 4 = .ok (.ireturn, 1) := by decide +kernel
theorem dX6_rule_0 : decode cX6_rule 0 = .ok (.iload_n 1, 1) := by decide +kernel
theorem dX6_rule_1 : decode cX6_rule 1 = .ok (.tableswitch 99 0 6 #[43, 51, 59, 67, 75, 83, 91], 43) := by decide +kernel
theorem dX6_rule_44 : decode cX6_rule 44 = .ok (.aload_n 0, 1) := by decide +kernel
theorem dX6_rule_45 : decode cX6_rule 45 = .ok (.getfield 10, 3) := by decide +kernel
theorem dX6_rule_48 : decode cX6_rule 48 = .ok (.getfield 99, 3) := by decide +kernel
theorem dX6_rule_51 : decode cX6_rule 51 = .ok (.ireturn, 1) := by decide +kernel
theorem dX6_rule_52 : decode cX6_rule 52 = .ok (.aload_n 0, 1) := by decide +kernel
theorem dX6_rule_53 : decode cX6_rule 53 = .ok (.getfield 10, 3) := by decide +kernel
theorem dX6_rule_56 : decode cX6_rule 56 = .ok (.getfield 102, 3) := by decide +kernel
theorem dX6_rule_59 : decode cX6_rule 59 = .ok (.ireturn, 1) := by decide +kernel
theorem dX6_rule_60 : decode cX6_rule 60 = .ok (.aload_n 0, 1) := by decide +kernel
theorem dX6_rule_61 : decode cX6_rule 61 = .ok (.getfield 10, 3) := by decide +kernel
theorem dX6_rule_64 : decode cX6_rule 64 = .ok (.getfield 105, 3) := by decide +kernel
theorem dX6_rule_67 : decode cX6_rule 67 = .ok (.ireturn, 1) := by decide +kernel
theorem dX6_rule_68 : decode cX6_rule 68 = .ok (.aload_n 0, 1) := by decide +kernel
theorem dX6_rule_69 : decode cX6_rule 69 = .ok (.getfield 10, 3) := by decide +kernel
theorem dX6_rule_72 : decode cX6_rule 72 = .ok (.getfield 108, 3) := by decide +kernel
theorem dX6_rule_75 : decode cX6_rule 75 = .ok (.ireturn, 1) := by decide +kernel
theorem dX6_rule_76 : decode cX6_rule 76 = .ok (.aload_n 0, 1) := by decide +kernel
theorem dX6_rule_77 : decode cX6_rule 77 = .ok (.getfield 10, 3) := by decide +kernel
theorem dX6_rule_80 : decode cX6_rule 80 = .ok (.getfield 111, 3) := by decide +kernel
theorem dX6_rule_83 : decode cX6_rule 83 = .ok (.ireturn, 1) := by decide +kernel
theorem dX6_rule_84 : decode cX6_rule 84 = .ok (.aload_n 0, 1) := by decide +kernel
theorem dX6_rule_85 : decode cX6_rule 85 = .ok (.getfield 10, 3) := by decide +kernel
theorem dX6_rule_88 : decode cX6_rule 88 = .ok (.invokevirtual 114, 3) := by decide +kernel
theorem dX6_rule_91 : decode cX6_rule 91 = .ok (.ireturn, 1) := by decide +kernel
theorem dX6_rule_92 : decode cX6_rule 92 = .ok (.aload_n 0, 1) := by decide +kernel
theorem dX6_rule_93 : decode cX6_rule 93 = .ok (.getfield 10, 3) := by decide +kernel
theorem dX6_rule_96 : decode cX6_rule 96 = .ok (.getfield 118, 3) := by decide +kernel
theorem dX6_rule_99 : decode cX6_rule 99 = .ok (.ireturn, 1) := by decide +kernel
theorem dX6_rule_100 : decode cX6_rule 100 = .ok (.iconst (-1), 1) := by decide +kernel
theorem dX6_rule_101 : decode cX6_rule 101 = .ok (.ireturn, 1) := by decide +kernel
theorem dX6_glove_0 : decode cX6_glove 0 = .ok (.aload_n 0, 1) := by decide +kernel
theorem dX6_glove_1 : decode cX6_glove 1 = .ok (.iload_n 1, 1) := by decide +kernel
theorem dX6_glove_2 : decode cX6_glove 2 = .ok (.invokevirtual 121, 3) := by decide +kernel
theorem dX6_glove_5 : decode cX6_glove 5 = .ok (.ifCond .ne 5, 3) := by decide +kernel
theorem dX6_glove_8 : decode cX6_glove 8 = .ok (.iconst (-1), 1) := by decide +kernel
theorem dX6_glove_9 : decode cX6_glove 9 = .ok (.ireturn, 1) := by decide +kernel
theorem dX6_glove_10 : decode cX6_glove 10 = .ok (.iload_n 2, 1) := by decide +kernel
theorem dX6_glove_11 : decode cX6_glove 11 = .ok (.tableswitch 93 0 5 #[37, 37, 37, 47, 64, 84], 37) := by decide +kernel
theorem dX6_glove_48 : decode cX6_glove 48 = .ok (.aload_n 0, 1) := by decide +kernel
theorem dX6_glove_49 : decode cX6_glove 49 = .ok (.getfield 10, 3) := by decide +kernel
theorem dX6_glove_52 : decode cX6_glove 52 = .ok (.iload_n 1, 1) := by decide +kernel
theorem dX6_glove_53 : decode cX6_glove 53 = .ok (.iload_n 2, 1) := by decide +kernel
theorem dX6_glove_54 : decode cX6_glove 54 = .ok (.invokevirtual 125, 3) := by decide +kernel
theorem dX6_glove_57 : decode cX6_glove 57 = .ok (.ireturn, 1) := by decide +kernel
theorem dX6_glove_58 : decode cX6_glove 58 = .ok (.aload_n 0, 1) := by decide +kernel
theorem dX6_glove_59 : decode cX6_glove 59 = .ok (.getfield 10, 3) := by decide +kernel
theorem dX6_glove_62 : decode cX6_glove 62 = .ok (.iload_n 1, 1) := by decide +kernel
theorem dX6_glove_63 : decode cX6_glove 63 = .ok (.invokevirtual 129, 3) := by decide +kernel
theorem dX6_glove_66 : decode cX6_glove 66 = .ok (.ifCond .eq 7, 3) := by decide +kernel
theorem dX6_glove_69 : decode cX6_glove 69 = .ok (.iconst 1, 1) := by decide +kernel
theorem dX6_glove_70 : decode cX6_glove 70 = .ok (.goto 4, 3) := by decide +kernel
theorem dX6_glove_73 : decode cX6_glove 73 = .ok (.iconst 0, 1) := by decide +kernel
theorem dX6_glove_74 : decode cX6_glove 74 = .ok (.ireturn, 1) := by decide +kernel
theorem dX6_glove_75 : decode cX6_glove 75 = .ok (.aload_n 0, 1) := by decide +kernel
theorem dX6_glove_76 : decode cX6_glove 76 = .ok (.getfield 10, 3) := by decide +kernel
theorem dX6_glove_79 : decode cX6_glove 79 = .ok (.getfield 132, 3) := by decide +kernel
theorem dX6_glove_82 : decode cX6_glove 82 = .ok (.iload_n 1, 1) := by decide +kernel
theorem dX6_glove_83 : decode cX6_glove 83 = .ok (.iaload, 1) := by decide +kernel
theorem dX6_glove_84 : decode cX6_glove 84 = .ok (.aload_n 0, 1) := by decide +kernel
theorem dX6_glove_85 : decode cX6_glove 85 = .ok (.getfield 10, 3) := by decide +kernel
theorem dX6_glove_88 : decode cX6_glove 88 = .ok (.getfield 105, 3) := by decide +kernel
theorem dX6_glove_91 : decode cX6_glove 91 = .ok (.invokestatic 136, 3) := by decide +kernel
theorem dX6_glove_94 : decode cX6_glove 94 = .ok (.ireturn, 1) := by decide +kernel
theorem dX6_glove_95 : decode cX6_glove 95 = .ok (.aload_n 0, 1) := by decide +kernel
theorem dX6_glove_96 : decode cX6_glove 96 = .ok (.getfield 10, 3) := by decide +kernel
theorem dX6_glove_99 : decode cX6_glove 99 = .ok (.iload_n 1, 1) := by decide +kernel
theorem dX6_glove_100 : decode cX6_glove 100 = .ok (.invokevirtual 139, 3) := by decide +kernel
theorem dX6_glove_103 : decode cX6_glove 103 = .ok (.ireturn, 1) := by decide +kernel
theorem dX6_glove_104 : decode cX6_glove 104 = .ok (.iconst (-1), 1) := by decide +kernel
theorem dX6_glove_105 : decode cX6_glove 105 = .ok (.ireturn, 1) := by decide +kernel
theorem dX6_door_0 : decode cX6_door 0 = .ok (.iload_n 1, 1) := by decide +kernel
theorem dX6_door_1 : decode cX6_door 1 = .ok (.invokestatic 143, 3) := by decide +kernel
theorem dX6_door_4 : decode cX6_door 4 = .ok (.ifCond .ne 5, 3) := by decide +kernel
theorem dX6_door_7 : decode cX6_door 7 = .ok (.iconst (-1), 1) := by decide +kernel
theorem dX6_door_8 : decode cX6_door 8 = .ok (.ireturn, 1) := by decide +kernel
theorem dX6_door_9 : decode cX6_door 9 = .ok (.iload_n 2, 1) := by decide +kernel
theorem dX6_door_10 : decode cX6_door 10 = .ok (.lookupswitch 45 #[(0, 26), (1, 36)], 26) := by decide +kernel
theorem dX6_door_36 : decode cX6_door 36 = .ok (.aload_n 0, 1) := by decide +kernel
theorem dX6_door_37 : decode cX6_door 37 = .ok (.getfield 10, 3) := by decide +kernel
theorem dX6_door_40 : decode cX6_door 40 = .ok (.getfield 146, 3) := by decide +kernel
theorem dX6_door_43 : decode cX6_door 43 = .ok (.iload_n 1, 1) := by decide +kernel
theorem dX6_door_44 : decode cX6_door 44 = .ok (.iaload, 1) := by decide +kernel
theorem dX6_door_45 : decode cX6_door 45 = .ok (.ireturn, 1) := by decide +kernel
theorem dX6_door_46 : decode cX6_door 46 = .ok (.aload_n 0, 1) := by decide +kernel
theorem dX6_door_47 : decode cX6_door 47 = .ok (.getfield 10, 3) := by decide +kernel
theorem dX6_door_50 : decode cX6_door 50 = .ok (.iload_n 1, 1) := by decide +kernel
theorem dX6_door_51 : decode cX6_door 51 = .ok (.invokevirtual 149, 3) := by decide +kernel
theorem dX6_door_54 : decode cX6_door 54 = .ok (.ireturn, 1) := by decide +kernel
theorem dX6_door_55 : decode cX6_door 55 = .ok (.iconst (-1), 1) := by decide +kernel
theorem dX6_door_56 : decode cX6_door 56 = .ok (.ireturn, 1) := by decide +kernel
theorem dX6_stop_0 : decode cX6_stop 0 = .ok (.aload_n 0, 1) := by decide +kernel
theorem dX6_stop_1 : decode cX6_stop 1 = .ok (.iload_n 1, 1) := by decide +kernel
theorem dX6_stop_2 : decode cX6_stop 2 = .ok (.invokevirtual 152, 3) := by decide +kernel
theorem dX6_stop_5 : decode cX6_stop 5 = .ok (.ifCond .eq 15, 3) := by decide +kernel
theorem dX6_stop_8 : decode cX6_stop 8 = .ok (.aload_n 0, 1) := by decide +kernel
theorem dX6_stop_9 : decode cX6_stop 9 = .ok (.getfield 10, 3) := by decide +kernel
theorem dX6_stop_12 : decode cX6_stop 12 = .ok (.getfield 155, 3) := by decide +kernel
theorem dX6_stop_15 : decode cX6_stop 15 = .ok (.iload_n 1, 1) := by decide +kernel
theorem dX6_stop_16 : decode cX6_stop 16 = .ok (.iaload, 1) := by decide +kernel
theorem dX6_stop_17 : decode cX6_stop 17 = .ok (.goto 4, 3) := by decide +kernel
theorem dX6_stop_20 : decode cX6_stop 20 = .ok (.iconst (-1), 1) := by decide +kernel
theorem dX6_stop_21 : decode cX6_stop 21 = .ok (.ireturn, 1) := by decide +kernel
theorem dX6_alter_0 : decode cX6_alter 0 = .ok (.aload_n 0, 1) := by decide +kernel
theorem dX6_alter_1 : decode cX6_alter 1 = .ok (.iload_n 1, 1) := by decide +kernel
theorem dX6_alter_2 : decode cX6_alter 2 = .ok (.iload_n 2, 1) := by decide +kernel
theorem dX6_alter_3 : decode cX6_alter 3 = .ok (.iload_n 3, 1) := by decide +kernel
theorem dX6_alter_4 : decode cX6_alter 4 = .ok (.invokevirtual 158, 3) := by decide +kernel
theorem dX6_alter_7 : decode cX6_alter 7 = .ok (.istore 4, 2) := by decide +kernel
theorem dX6_alter_9 : decode cX6_alter 9 = .ok (.iload 4, 2) := by decide +kernel
theorem dX6_alter_11 : decode cX6_alter 11 = .ok (.ifCond .eq 6, 3) := by decide +kernel
theorem dX6_alter_14 : decode cX6_alter 14 = .ok (.iload 4, 2) := by decide +kernel
theorem dX6_alter_16 : decode cX6_alter 16 = .ok (.ireturn, 1) := by decide +kernel
theorem dX6_alter_17 : decode cX6_alter 17 = .ok (.aload_n 0, 1) := by decide +kernel
theorem dX6_alter_18 : decode cX6_alter 18 = .ok (.getfield 10, 3) := by decide +kernel
theorem dX6_alter_21 : decode cX6_alter 21 = .ok (.iload_n 1, 1) := by decide +kernel
theorem dX6_alter_22 : decode cX6_alter 22 = .ok (.iload_n 2, 1) := by decide +kernel
theorem dX6_alter_23 : decode cX6_alter 23 = .ok (.invokevirtual 125, 3) := by decide +kernel
theorem dX6_alter_26 : decode cX6_alter 26 = .ok (.istore 5, 2) := by decide +kernel
theorem dX6_alter_28 : decode cX6_alter 28 = .ok (.aload_n 0, 1) := by decide +kernel
theorem dX6_alter_29 : decode cX6_alter 29 = .ok (.getfield 10, 3) := by decide +kernel
theorem dX6_alter_32 : decode cX6_alter 32 = .ok (.iload_n 1, 1) := by decide +kernel
theorem dX6_alter_33 : decode cX6_alter 33 = .ok (.iload_n 2, 1) := by decide +kernel
theorem dX6_alter_34 : decode cX6_alter 34 = .ok (.iload_n 3, 1) := by decide +kernel
theorem dX6_alter_35 : decode cX6_alter 35 = .ok (.invokevirtual 162, 3) := by decide +kernel
theorem dX6_alter_38 : decode cX6_alter 38 = .ok (.iload 5, 2) := by decide +kernel
theorem dX6_alter_40 : decode cX6_alter 40 = .ok (.ireturn, 1) := by decide +kernel
theorem dX6_fame_0 : decode cX6_fame 0 = .ok (.iload_n 1, 1) := by decide +kernel
theorem dX6_fame_1 : decode cX6_fame 1 = .ok (.invokestatic 143, 3) := by decide +kernel
theorem dX6_fame_4 : decode cX6_fame 4 = .ok (.ifCond .eq 12, 3) := by decide +kernel
theorem dX6_fame_7 : decode cX6_fame 7 = .ok (.iload_n 2, 1) := by decide +kernel
theorem dX6_fame_8 : decode cX6_fame 8 = .ok (.bipush 9, 2) := by decide +kernel
theorem dX6_fame_10 : decode cX6_fame 10 = .ok (.invokestatic 60, 3) := by decide +kernel
theorem dX6_fame_13 : decode cX6_fame 13 = .ok (.ifCond .ne 5, 3) := by decide +kernel
theorem dX6_fame_16 : decode cX6_fame 16 = .ok (.iconst (-1), 1) := by decide +kernel
theorem dX6_fame_17 : decode cX6_fame 17 = .ok (.ireturn, 1) := by decide +kernel
theorem dX6_fame_18 : decode cX6_fame 18 = .ok (.aload_n 0, 1) := by decide +kernel
theorem dX6_fame_19 : decode cX6_fame 19 = .ok (.getfield 10, 3) := by decide +kernel
theorem dX6_fame_22 : decode cX6_fame 22 = .ok (.getfield 146, 3) := by decide +kernel
theorem dX6_fame_25 : decode cX6_fame 25 = .ok (.iload_n 1, 1) := by decide +kernel
theorem dX6_fame_26 : decode cX6_fame 26 = .ok (.iaload, 1) := by decide +kernel
theorem dX6_fame_27 : decode cX6_fame 27 = .ok (.istore_n 3, 1) := by decide +kernel
theorem dX6_fame_28 : decode cX6_fame 28 = .ok (.aload_n 0, 1) := by decide +kernel
theorem dX6_fame_29 : decode cX6_fame 29 = .ok (.getfield 10, 3) := by decide +kernel
theorem dX6_fame_32 : decode cX6_fame 32 = .ok (.getfield 146, 3) := by decide +kernel
theorem dX6_fame_35 : decode cX6_fame 35 = .ok (.iload_n 1, 1) := by decide +kernel
theorem dX6_fame_36 : decode cX6_fame 36 = .ok (.iload_n 2, 1) := by decide +kernel
theorem dX6_fame_37 : decode cX6_fame 37 = .ok (.iastore, 1) := by decide +kernel
theorem dX6_fame_38 : decode cX6_fame 38 = .ok (.iload_n 3, 1) := by decide +kernel
theorem dX6_fame_39 : decode cX6_fame 39 = .ok (.ireturn, 1) := by decide +kernel
theorem dX6_leave_0 : decode cX6_leave 0 = .ok (.aload_n 0, 1) := by decide +kernel
theorem dX6_leave_1 : decode cX6_leave 1 = .ok (.iload_n 1, 1) := by decide +kernel
theorem dX6_leave_2 : decode cX6_leave 2 = .ok (.invokevirtual 121, 3) := by decide +kernel
theorem dX6_leave_5 : decode cX6_leave 5 = .ok (.ifCond .ne 5, 3) := by decide +kernel
theorem dX6_leave_8 : decode cX6_leave 8 = .ok (.iconst (-1), 1) := by decide +kernel
theorem dX6_leave_9 : decode cX6_leave 9 = .ok (.ireturn, 1) := by decide +kernel
theorem dX6_leave_10 : decode cX6_leave 10 = .ok (.aload_n 0, 1) := by decide +kernel
theorem dX6_leave_11 : decode cX6_leave 11 = .ok (.getfield 10, 3) := by decide +kernel
theorem dX6_leave_14 : decode cX6_leave 14 = .ok (.iload_n 1, 1) := by decide +kernel
theorem dX6_leave_15 : decode cX6_leave 15 = .ok (.invokevirtual 129, 3) := by decide +kernel
theorem dX6_leave_18 : decode cX6_leave 18 = .ok (.ifCond .ne 6, 3) := by decide +kernel
theorem dX6_leave_21 : decode cX6_leave 21 = .ok (.bipush (-2), 2) := by decide +kernel
theorem dX6_leave_23 : decode cX6_leave 23 = .ok (.ireturn, 1) := by decide +kernel
theorem dX6_leave_24 : decode cX6_leave 24 = .ok (.aload_n 0, 1) := by decide +kernel
theorem dX6_leave_25 : decode cX6_leave 25 = .ok (.getfield 10, 3) := by decide +kernel
theorem dX6_leave_28 : decode cX6_leave 28 = .ok (.dup, 1) := by decide +kernel
theorem dX6_leave_29 : decode cX6_leave 29 = .ok (.getfield 111, 3) := by decide +kernel
theorem dX6_leave_32 : decode cX6_leave 32 = .ok (.iconst 1, 1) := by decide +kernel
theorem dX6_leave_33 : decode cX6_leave 33 = .ok (.iload_n 1, 1) := by decide +kernel
theorem dX6_leave_34 : decode cX6_leave 34 = .ok (.ishl, 1) := by decide +kernel
theorem dX6_leave_35 : decode cX6_leave 35 = .ok (.iconst (-1), 1) := by decide +kernel
theorem dX6_leave_36 : decode cX6_leave 36 = .ok (.ixor, 1) := by decide +kernel
theorem dX6_leave_37 : decode cX6_leave 37 = .ok (.iand, 1) := by decide +kernel
theorem dX6_leave_38 : decode cX6_leave 38 = .ok (.putfield 111, 3) := by decide +kernel
theorem dX6_leave_41 : decode cX6_leave 41 = .ok (.aload_n 0, 1) := by decide +kernel
theorem dX6_leave_42 : decode cX6_leave 42 = .ok (.getfield 10, 3) := by decide +kernel
theorem dX6_leave_45 : decode cX6_leave 45 = .ok (.getfield 132, 3) := by decide +kernel
theorem dX6_leave_48 : decode cX6_leave 48 = .ok (.iload_n 1, 1) := by decide +kernel
theorem dX6_leave_49 : decode cX6_leave 49 = .ok (.iaload, 1) := by decide +kernel
theorem dX6_leave_50 : decode cX6_leave 50 = .ok (.ireturn, 1) := by decide +kernel
theorem dX6_go_0 : decode cX6_go 0 = .ok (.iload_n 1, 1) := by decide +kernel
theorem dX6_go_1 : decode cX6_go 1 = .ok (.invokestatic 143, 3) := by decide +kernel
theorem dX6_go_4 : decode cX6_go 4 = .ok (.ifCond .ne 5, 3) := by decide +kernel
theorem dX6_go_7 : decode cX6_go 7 = .ok (.iconst (-1), 1) := by decide +kernel
theorem dX6_go_8 : decode cX6_go 8 = .ok (.ireturn, 1) := by decide +kernel
theorem dX6_go_9 : decode cX6_go 9 = .ok (.aload_n 0, 1) := by decide +kernel
theorem dX6_go_10 : decode cX6_go 10 = .ok (.getfield 10, 3) := by decide +kernel
theorem dX6_go_13 : decode cX6_go 13 = .ok (.getfield 105, 3) := by decide +kernel
theorem dX6_go_16 : decode cX6_go 16 = .ok (.istore_n 2, 1) := by decide +kernel
theorem dX6_go_17 : decode cX6_go 17 = .ok (.aload_n 0, 1) := by decide +kernel
theorem dX6_go_18 : decode cX6_go 18 = .ok (.getfield 10, 3) := by decide +kernel
theorem dX6_go_21 : decode cX6_go 21 = .ok (.iload_n 1, 1) := by decide +kernel
theorem dX6_go_22 : decode cX6_go 22 = .ok (.invokevirtual 166, 3) := by decide +kernel
theorem dX6_go_25 : decode cX6_go 25 = .ok (.iload_n 2, 1) := by decide +kernel
theorem dX6_go_26 : decode cX6_go 26 = .ok (.ireturn, 1) := by decide +kernel
theorem dX6_call_0 : decode cX6_call 0 = .ok (.iload_n 1, 1) := by decide +kernel
theorem dX6_call_1 : decode cX6_call 1 = .ok (.invokestatic 143, 3) := by decide +kernel
theorem dX6_call_4 : decode cX6_call 4 = .ok (.ifCond .ne 5, 3) := by decide +kernel
theorem dX6_call_7 : decode cX6_call 7 = .ok (.iconst (-1), 1) := by decide +kernel
theorem dX6_call_8 : decode cX6_call 8 = .ok (.ireturn, 1) := by decide +kernel
theorem dX6_call_9 : decode cX6_call 9 = .ok (.aload_n 0, 1) := by decide +kernel
theorem dX6_call_10 : decode cX6_call 10 = .ok (.getfield 10, 3) := by decide +kernel
theorem dX6_call_13 : decode cX6_call 13 = .ok (.getfield 118, 3) := by decide +kernel
theorem dX6_call_16 : decode cX6_call 16 = .ok (.bipush 6, 2) := by decide +kernel
theorem dX6_call_18 : decode cX6_call 18 = .ok (.if_icmp .lt 6, 3) := by decide +kernel
theorem dX6_call_21 : decode cX6_call 21 = .ok (.bipush (-3), 2) := by decide +kernel
theorem dX6_call_23 : decode cX6_call 23 = .ok (.ireturn, 1) := by decide +kernel
theorem dX6_call_24 : decode cX6_call 24 = .ok (.aload_n 0, 1) := by decide +kernel
theorem dX6_call_25 : decode cX6_call 25 = .ok (.getfield 10, 3) := by decide +kernel
theorem dX6_call_28 : decode cX6_call 28 = .ok (.getfield 155, 3) := by decide +kernel
theorem dX6_call_31 : decode cX6_call 31 = .ok (.aload_n 0, 1) := by decide +kernel
theorem dX6_call_32 : decode cX6_call 32 = .ok (.getfield 10, 3) := by decide +kernel
theorem dX6_call_35 : decode cX6_call 35 = .ok (.getfield 118, 3) := by decide +kernel
theorem dX6_call_38 : decode cX6_call 38 = .ok (.iload_n 1, 1) := by decide +kernel
theorem dX6_call_39 : decode cX6_call 39 = .ok (.iastore, 1) := by decide +kernel
theorem dX6_call_40 : decode cX6_call 40 = .ok (.aload_n 0, 1) := by decide +kernel
theorem dX6_call_41 : decode cX6_call 41 = .ok (.getfield 10, 3) := by decide +kernel
theorem dX6_call_44 : decode cX6_call 44 = .ok (.dup, 1) := by decide +kernel
theorem dX6_call_45 : decode cX6_call 45 = .ok (.getfield 118, 3) := by decide +kernel
theorem dX6_call_48 : decode cX6_call 48 = .ok (.iconst 1, 1) := by decide +kernel
theorem dX6_call_49 : decode cX6_call 49 = .ok (.iadd, 1) := by decide +kernel
theorem dX6_call_50 : decode cX6_call 50 = .ok (.putfield 118, 3) := by decide +kernel
theorem dX6_call_53 : decode cX6_call 53 = .ok (.aload_n 0, 1) := by decide +kernel
theorem dX6_call_54 : decode cX6_call 54 = .ok (.getfield 10, 3) := by decide +kernel
theorem dX6_call_57 : decode cX6_call 57 = .ok (.getfield 118, 3) := by decide +kernel
theorem dX6_call_60 : decode cX6_call 60 = .ok (.ireturn, 1) := by decide +kernel
theorem dX6_cut_0 : decode cX6_cut 0 = .ok (.iload_n 1, 1) := by decide +kernel
theorem dX6_cut_1 : decode cX6_cut 1 = .ok (.aload_n 0, 1) := by decide +kernel
theorem dX6_cut_2 : decode cX6_cut 2 = .ok (.getfield 10, 3) := by decide +kernel
theorem dX6_cut_5 : decode cX6_cut 5 = .ok (.getfield 118, 3) := by decide +kernel
theorem dX6_cut_8 : decode cX6_cut 8 = .ok (.invokestatic 60, 3) := by decide +kernel
theorem dX6_cut_11 : decode cX6_cut 11 = .ok (.ifCond .ne 5, 3) := by decide +kernel
theorem dX6_cut_14 : decode cX6_cut 14 = .ok (.iconst (-1), 1) := by decide +kernel
theorem dX6_cut_15 : decode cX6_cut 15 = .ok (.ireturn, 1) := by decide +kernel
theorem dX6_cut_16 : decode cX6_cut 16 = .ok (.aload_n 0, 1) := by decide +kernel
theorem dX6_cut_17 : decode cX6_cut 17 = .ok (.getfield 10, 3) := by decide +kernel
theorem dX6_cut_20 : decode cX6_cut 20 = .ok (.getfield 118, 3) := by decide +kernel
theorem dX6_cut_23 : decode cX6_cut 23 = .ok (.istore_n 2, 1) := by decide +kernel
theorem dX6_cut_24 : decode cX6_cut 24 = .ok (.aload_n 0, 1) := by decide +kernel
theorem dX6_cut_25 : decode cX6_cut 25 = .ok (.getfield 10, 3) := by decide +kernel
theorem dX6_cut_28 : decode cX6_cut 28 = .ok (.iload_n 1, 1) := by decide +kernel
theorem dX6_cut_29 : decode cX6_cut 29 = .ok (.putfield 118, 3) := by decide +kernel
theorem dX6_cut_32 : decode cX6_cut 32 = .ok (.iload_n 2, 1) := by decide +kernel
theorem dX6_cut_33 : decode cX6_cut 33 = .ok (.ireturn, 1) := by decide +kernel
theorem dX6_days_0 : decode cX6_days 0 = .ok (.iload_n 1, 1) := by decide +kernel
theorem dX6_days_1 : decode cX6_days 1 = .ok (.bipush 30, 2) := by decide +kernel
theorem dX6_days_3 : decode cX6_days 3 = .ok (.invokestatic 60, 3) := by decide +kernel
theorem dX6_days_6 : decode cX6_days 6 = .ok (.ifCond .ne 5, 3) := by decide +kernel
theorem dX6_days_9 : decode cX6_days 9 = .ok (.iconst (-1), 1) := by decide +kernel
theorem dX6_days_10 : decode cX6_days 10 = .ok (.ireturn, 1) := by decide +kernel
theorem dX6_days_11 : decode cX6_days 11 = .ok (.aload_n 0, 1) := by decide +kernel
theorem dX6_days_12 : decode cX6_days 12 = .ok (.getfield 10, 3) := by decide +kernel
theorem dX6_days_15 : decode cX6_days 15 = .ok (.getfield 102, 3) := by decide +kernel
theorem dX6_days_18 : decode cX6_days 18 = .ok (.iload_n 1, 1) := by decide +kernel
theorem dX6_days_19 : decode cX6_days 19 = .ok (.iadd, 1) := by decide +kernel
theorem dX6_days_20 : decode cX6_days 20 = .ok (.sipush 999, 3) := by decide +kernel
theorem dX6_days_23 : decode cX6_days 23 = .ok (.if_icmp .le 6, 3) := by decide +kernel
theorem dX6_days_26 : decode cX6_days 26 = .ok (.bipush (-3), 2) := by decide +kernel
theorem dX6_days_28 : decode cX6_days 28 = .ok (.ireturn, 1) := by decide +kernel
theorem dX6_days_29 : decode cX6_days 29 = .ok (.aload_n 0, 1) := by decide +kernel
theorem dX6_days_30 : decode cX6_days 30 = .ok (.getfield 10, 3) := by decide +kernel
theorem dX6_days_33 : decode cX6_days 33 = .ok (.getfield 108, 3) := by decide +kernel
theorem dX6_days_36 : decode cX6_days 36 = .ok (.istore_n 2, 1) := by decide +kernel
theorem dX6_days_37 : decode cX6_days 37 = .ok (.aload_n 0, 1) := by decide +kernel
theorem dX6_days_38 : decode cX6_days 38 = .ok (.getfield 10, 3) := by decide +kernel
theorem dX6_days_41 : decode cX6_days 41 = .ok (.iload_n 1, 1) := by decide +kernel
theorem dX6_days_42 : decode cX6_days 42 = .ok (.invokevirtual 170, 3) := by decide +kernel
theorem dX6_days_45 : decode cX6_days 45 = .ok (.aload_n 0, 1) := by decide +kernel
theorem dX6_days_46 : decode cX6_days 46 = .ok (.getfield 10, 3) := by decide +kernel
theorem dX6_days_49 : decode cX6_days 49 = .ok (.getfield 108, 3) := by decide +kernel
theorem dX6_days_52 : decode cX6_days 52 = .ok (.iload_n 2, 1) := by decide +kernel
theorem dX6_days_53 : decode cX6_days 53 = .ok (.isub, 1) := by decide +kernel
theorem dX6_days_54 : decode cX6_days 54 = .ok (.ireturn, 1) := by decide +kernel
theorem dX6_runs_0 : decode cX6_runs 0 = .ok (.iload_n 1, 1) := by decide +kernel
theorem dX6_runs_1 : decode cX6_runs 1 = .ok (.bipush 60, 2) := by decide +kernel
theorem dX6_runs_3 : decode cX6_runs 3 = .ok (.invokestatic 60, 3) := by decide +kernel
theorem dX6_runs_6 : decode cX6_runs 6 = .ok (.ifCond .eq 11, 3) := by decide +kernel
theorem dX6_runs_9 : decode cX6_runs 9 = .ok (.iload_n 2, 1) := by decide +kernel
theorem dX6_runs_10 : decode cX6_runs 10 = .ok (.iconst 4, 1) := by decide +kernel
theorem dX6_runs_11 : decode cX6_runs 11 = .ok (.invokestatic 60, 3) := by decide +kernel
theorem dX6_runs_14 : decode cX6_runs 14 = .ok (.ifCond .ne 5, 3) := by decide +kernel
theorem dX6_runs_17 : decode cX6_runs 17 = .ok (.iconst (-1), 1) := by decide +kernel
theorem dX6_runs_18 : decode cX6_runs 18 = .ok (.ireturn, 1) := by decide +kernel
theorem dX6_runs_19 : decode cX6_runs 19 = .ok (.aload_n 0, 1) := by decide +kernel
theorem dX6_runs_20 : decode cX6_runs 20 = .ok (.getfield 23, 3) := by decide +kernel
theorem dX6_runs_23 : decode cX6_runs 23 = .ok (.aload_n 0, 1) := by decide +kernel
theorem dX6_runs_24 : decode cX6_runs 24 = .ok (.getfield 10, 3) := by decide +kernel
theorem dX6_runs_27 : decode cX6_runs 27 = .ok (.invokevirtual 85, 3) := by decide +kernel
theorem dX6_runs_30 : decode cX6_runs 30 = .ok (.iload_n 2, 1) := by decide +kernel
theorem dX6_runs_31 : decode cX6_runs 31 = .ok (.iconst 4, 1) := by decide +kernel
theorem dX6_runs_32 : decode cX6_runs 32 = .ok (.if_icmp .ne 18, 3) := by decide +kernel
theorem dX6_runs_35 : decode cX6_runs 35 = .ok (.aload_n 0, 1) := by decide +kernel
theorem dX6_runs_36 : decode cX6_runs 36 = .ok (.aload_n 0, 1) := by decide +kernel
theorem dX6_runs_37 : decode cX6_runs 37 = .ok (.getfield 10, 3) := by decide +kernel
theorem dX6_runs_40 : decode cX6_runs 40 = .ok (.getfield 111, 3) := by decide +kernel
theorem dX6_runs_43 : decode cX6_runs 43 = .ok (.iconst (-1), 1) := by decide +kernel
theorem dX6_runs_44 : decode cX6_runs 44 = .ok (.ixor, 1) := by decide +kernel
theorem dX6_runs_45 : decode cX6_runs 45 = .ok (.iload_n 1, 1) := by decide +kernel
theorem dX6_runs_46 : decode cX6_runs 46 = .ok (.invokevirtual 173, 3) := by decide +kernel
theorem dX6_runs_49 : decode cX6_runs 49 = .ok (.ireturn, 1) := by decide +kernel
theorem dX6_runs_50 : decode cX6_runs 50 = .ok (.aload_n 0, 1) := by decide +kernel
theorem dX6_runs_51 : decode cX6_runs 51 = .ok (.getfield 23, 3) := by decide +kernel
theorem dX6_runs_54 : decode cX6_runs 54 = .ok (.iload_n 1, 1) := by decide +kernel
theorem dX6_runs_55 : decode cX6_runs 55 = .ok (.invokevirtual 170, 3) := by decide +kernel
theorem dX6_runs_58 : decode cX6_runs 58 = .ok (.iload_n 2, 1) := by decide +kernel
theorem dX6_runs_59 : decode cX6_runs 59 = .ok (.tableswitch 57 0 2 #[25, 41, 49], 25) := by decide +kernel
theorem dX6_runs_84 : decode cX6_runs 84 = .ok (.aload_n 0, 1) := by decide +kernel
theorem dX6_runs_85 : decode cX6_runs 85 = .ok (.getfield 23, 3) := by decide +kernel
theorem dX6_runs_88 : decode cX6_runs 88 = .ok (.getfield 108, 3) := by decide +kernel
theorem dX6_runs_91 : decode cX6_runs 91 = .ok (.aload_n 0, 1) := by decide +kernel
theorem dX6_runs_92 : decode cX6_runs 92 = .ok (.getfield 10, 3) := by decide +kernel
theorem dX6_runs_95 : decode cX6_runs 95 = .ok (.getfield 108, 3) := by decide +kernel
theorem dX6_runs_98 : decode cX6_runs 98 = .ok (.isub, 1) := by decide +kernel
theorem dX6_runs_99 : decode cX6_runs 99 = .ok (.ireturn, 1) := by decide +kernel
theorem dX6_runs_100 : decode cX6_runs 100 = .ok (.aload_n 0, 1) := by decide +kernel
theorem dX6_runs_101 : decode cX6_runs 101 = .ok (.getfield 23, 3) := by decide +kernel
theorem dX6_runs_104 : decode cX6_runs 104 = .ok (.getfield 111, 3) := by decide +kernel
theorem dX6_runs_107 : decode cX6_runs 107 = .ok (.ireturn, 1) := by decide +kernel
theorem dX6_runs_108 : decode cX6_runs 108 = .ok (.aload_n 0, 1) := by decide +kernel
theorem dX6_runs_109 : decode cX6_runs 109 = .ok (.getfield 23, 3) := by decide +kernel
theorem dX6_runs_112 : decode cX6_runs 112 = .ok (.invokevirtual 114, 3) := by decide +kernel
theorem dX6_runs_115 : decode cX6_runs 115 = .ok (.ireturn, 1) := by decide +kernel
theorem dX6_runs_116 : decode cX6_runs 116 = .ok (.aload_n 0, 1) := by decide +kernel
theorem dX6_runs_117 : decode cX6_runs 117 = .ok (.getfield 23, 3) := by decide +kernel
theorem dX6_runs_120 : decode cX6_runs 120 = .ok (.getfield 105, 3) := by decide +kernel
theorem dX6_runs_123 : decode cX6_runs 123 = .ok (.ireturn, 1) := by decide +kernel
theorem dX6_ahead_0 : decode cX6_ahead 0 = .ok (.aload_n 0, 1) := by decide +kernel
theorem dX6_ahead_1 : decode cX6_ahead 1 = .ok (.iload_n 1, 1) := by decide +kernel
theorem dX6_ahead_2 : decode cX6_ahead 2 = .ok (.invokevirtual 121, 3) := by decide +kernel
theorem dX6_ahead_5 : decode cX6_ahead 5 = .ok (.ifCond .eq 20, 3) := by decide +kernel
theorem dX6_ahead_8 : decode cX6_ahead 8 = .ok (.iload_n 2, 1) := by decide +kernel
theorem dX6_ahead_9 : decode cX6_ahead 9 = .ok (.bipush 60, 2) := by decide +kernel
theorem dX6_ahead_11 : decode cX6_ahead 11 = .ok (.invokestatic 60, 3) := by decide +kernel
theorem dX6_ahead_14 : decode cX6_ahead 14 = .ok (.ifCond .eq 11, 3) := by decide +kernel
theorem dX6_ahead_17 : decode cX6_ahead 17 = .ok (.iload_n 3, 1) := by decide +kernel
theorem dX6_ahead_18 : decode cX6_ahead 18 = .ok (.iconst 1, 1) := by decide +kernel
theorem dX6_ahead_19 : decode cX6_ahead 19 = .ok (.invokestatic 60, 3) := by decide +kernel
theorem dX6_ahead_22 : decode cX6_ahead 22 = .ok (.ifCond .ne 5, 3) := by decide +kernel
theorem dX6_ahead_25 : decode cX6_ahead 25 = .ok (.iconst (-1), 1) := by decide +kernel
theorem dX6_ahead_26 : decode cX6_ahead 26 = .ok (.ireturn, 1) := by decide +kernel
theorem dX6_ahead_27 : decode cX6_ahead 27 = .ok (.aload_n 0, 1) := by decide +kernel
theorem dX6_ahead_28 : decode cX6_ahead 28 = .ok (.getfield 23, 3) := by decide +kernel
theorem dX6_ahead_31 : decode cX6_ahead 31 = .ok (.aload_n 0, 1) := by decide +kernel
theorem dX6_ahead_32 : decode cX6_ahead 32 = .ok (.getfield 10, 3) := by decide +kernel
theorem dX6_ahead_35 : decode cX6_ahead 35 = .ok (.invokevirtual 85, 3) := by decide +kernel
theorem dX6_ahead_38 : decode cX6_ahead 38 = .ok (.aload_n 0, 1) := by decide +kernel
theorem dX6_ahead_39 : decode cX6_ahead 39 = .ok (.getfield 23, 3) := by decide +kernel
theorem dX6_ahead_42 : decode cX6_ahead 42 = .ok (.iload_n 2, 1) := by decide +kernel
theorem dX6_ahead_43 : decode cX6_ahead 43 = .ok (.invokevirtual 170, 3) := by decide +kernel
theorem dX6_ahead_46 : decode cX6_ahead 46 = .ok (.iload_n 3, 1) := by decide +kernel
theorem dX6_ahead_47 : decode cX6_ahead 47 = .ok (.ifCond .ne 15, 3) := by decide +kernel
theorem dX6_ahead_50 : decode cX6_ahead 50 = .ok (.aload_n 0, 1) := by decide +kernel
theorem dX6_ahead_51 : decode cX6_ahead 51 = .ok (.getfield 23, 3) := by decide +kernel
theorem dX6_ahead_54 : decode cX6_ahead 54 = .ok (.getfield 132, 3) := by decide +kernel
theorem dX6_ahead_57 : decode cX6_ahead 57 = .ok (.iload_n 1, 1) := by decide +kernel
theorem dX6_ahead_58 : decode cX6_ahead 58 = .ok (.iaload, 1) := by decide +kernel
theorem dX6_ahead_59 : decode cX6_ahead 59 = .ok (.goto 12, 3) := by decide +kernel
theorem dX6_ahead_62 : decode cX6_ahead 62 = .ok (.aload_n 0, 1) := by decide +kernel
theorem dX6_ahead_63 : decode cX6_ahead 63 = .ok (.getfield 23, 3) := by decide +kernel
theorem dX6_ahead_66 : decode cX6_ahead 66 = .ok (.getfield 176, 3) := by decide +kernel
theorem dX6_ahead_69 : decode cX6_ahead 69 = .ok (.iload_n 1, 1) := by decide +kernel
theorem dX6_ahead_70 : decode cX6_ahead 70 = .ok (.iaload, 1) := by decide +kernel
theorem dX6_ahead_71 : decode cX6_ahead 71 = .ok (.ireturn, 1) := by decide +kernel
theorem dX6_meets_0 : decode cX6_meets 0 = .ok (.aload_n 0, 1) := by decide +kernel
theorem dX6_meets_1 : decode cX6_meets 1 = .ok (.iload_n 1, 1) := by decide +kernel
theorem dX6_meets_2 : decode cX6_meets 2 = .ok (.invokevirtual 121, 3) := by decide +kernel
theorem dX6_meets_5 : decode cX6_meets 5 = .ok (.ifCond .ne 5, 3) := by decide +kernel
theorem dX6_meets_8 : decode cX6_meets 8 = .ok (.iconst (-1), 1) := by decide +kernel
theorem dX6_meets_9 : decode cX6_meets 9 = .ok (.ireturn, 1) := by decide +kernel
theorem dX6_meets_10 : decode cX6_meets 10 = .ok (.aload_n 0, 1) := by decide +kernel
theorem dX6_meets_11 : decode cX6_meets 11 = .ok (.getfield 23, 3) := by decide +kernel
theorem dX6_meets_14 : decode cX6_meets 14 = .ok (.aload_n 0, 1) := by decide +kernel
theorem dX6_meets_15 : decode cX6_meets 15 = .ok (.getfield 10, 3) := by decide +kernel
theorem dX6_meets_18 : decode cX6_meets 18 = .ok (.invokevirtual 85, 3) := by decide +kernel
theorem dX6_meets_21 : decode cX6_meets 21 = .ok (.aload_n 0, 1) := by decide +kernel
theorem dX6_meets_22 : decode cX6_meets 22 = .ok (.iconst 1, 1) := by decide +kernel
theorem dX6_meets_23 : decode cX6_meets 23 = .ok (.iload_n 1, 1) := by decide +kernel
theorem dX6_meets_24 : decode cX6_meets 24 = .ok (.ishl, 1) := by decide +kernel
theorem dX6_meets_25 : decode cX6_meets 25 = .ok (.bipush 60, 2) := by decide +kernel
theorem dX6_meets_27 : decode cX6_meets 27 = .ok (.invokevirtual 173, 3) := by decide +kernel
theorem dX6_meets_30 : decode cX6_meets 30 = .ok (.ireturn, 1) := by decide +kernel
theorem dX6_place_0 : decode cX6_place 0 = .ok (.aload_n 0, 1) := by decide +kernel
theorem dX6_place_1 : decode cX6_place 1 = .ok (.iload_n 1, 1) := by decide +kernel
theorem dX6_place_2 : decode cX6_place 2 = .ok (.invokevirtual 152, 3) := by decide +kernel
theorem dX6_place_5 : decode cX6_place 5 = .ok (.ifCond .eq 20, 3) := by decide +kernel
theorem dX6_place_8 : decode cX6_place 8 = .ok (.iload_n 2, 1) := by decide +kernel
theorem dX6_place_9 : decode cX6_place 9 = .ok (.bipush 60, 2) := by decide +kernel
theorem dX6_place_11 : decode cX6_place 11 = .ok (.invokestatic 60, 3) := by decide +kernel
theorem dX6_place_14 : decode cX6_place 14 = .ok (.ifCond .eq 11, 3) := by decide +kernel
theorem dX6_place_17 : decode cX6_place 17 = .ok (.iload_n 3, 1) := by decide +kernel
theorem dX6_place_18 : decode cX6_place 18 = .ok (.iconst 1, 1) := by decide +kernel
theorem dX6_place_19 : decode cX6_place 19 = .ok (.invokestatic 60, 3) := by decide +kernel
theorem dX6_place_22 : decode cX6_place 22 = .ok (.ifCond .ne 5, 3) := by decide +kernel
theorem dX6_place_25 : decode cX6_place 25 = .ok (.iconst (-1), 1) := by decide +kernel
theorem dX6_place_26 : decode cX6_place 26 = .ok (.ireturn, 1) := by decide +kernel
theorem dX6_place_27 : decode cX6_place 27 = .ok (.aload_n 0, 1) := by decide +kernel
theorem dX6_place_28 : decode cX6_place 28 = .ok (.iload_n 1, 1) := by decide +kernel
theorem dX6_place_29 : decode cX6_place 29 = .ok (.iload_n 2, 1) := by decide +kernel
theorem dX6_place_30 : decode cX6_place 30 = .ok (.iload_n 3, 1) := by decide +kernel
theorem dX6_place_31 : decode cX6_place 31 = .ok (.invokevirtual 179, 3) := by decide +kernel
theorem dX6_place_34 : decode cX6_place 34 = .ok (.ireturn, 1) := by decide +kernel
theorem dX6_extra_0 : decode cX6_extra 0 = .ok (.iload_n 1, 1) := by decide +kernel
theorem dX6_extra_1 : decode cX6_extra 1 = .ok (.bipush 60, 2) := by decide +kernel
theorem dX6_extra_3 : decode cX6_extra 3 = .ok (.invokestatic 60, 3) := by decide +kernel
theorem dX6_extra_6 : decode cX6_extra 6 = .ok (.ifCond .eq 11, 3) := by decide +kernel
theorem dX6_extra_9 : decode cX6_extra 9 = .ok (.iload_n 2, 1) := by decide +kernel
theorem dX6_extra_10 : decode cX6_extra 10 = .ok (.iconst 1, 1) := by decide +kernel
theorem dX6_extra_11 : decode cX6_extra 11 = .ok (.invokestatic 60, 3) := by decide +kernel
theorem dX6_extra_14 : decode cX6_extra 14 = .ok (.ifCond .ne 5, 3) := by decide +kernel
theorem dX6_extra_17 : decode cX6_extra 17 = .ok (.iconst (-1), 1) := by decide +kernel
theorem dX6_extra_18 : decode cX6_extra 18 = .ok (.ireturn, 1) := by decide +kernel
theorem dX6_extra_19 : decode cX6_extra 19 = .ok (.aload_n 0, 1) := by decide +kernel
theorem dX6_extra_20 : decode cX6_extra 20 = .ok (.getfield 10, 3) := by decide +kernel
theorem dX6_extra_23 : decode cX6_extra 23 = .ok (.getfield 118, 3) := by decide +kernel
theorem dX6_extra_26 : decode cX6_extra 26 = .ok (.bipush 6, 2) := by decide +kernel
theorem dX6_extra_28 : decode cX6_extra 28 = .ok (.if_icmp .lt 6, 3) := by decide +kernel
theorem dX6_extra_31 : decode cX6_extra 31 = .ok (.bipush (-3), 2) := by decide +kernel
theorem dX6_extra_33 : decode cX6_extra 33 = .ok (.ireturn, 1) := by decide +kernel
theorem dX6_extra_34 : decode cX6_extra 34 = .ok (.aload_n 0, 1) := by decide +kernel
theorem dX6_extra_35 : decode cX6_extra 35 = .ok (.aload_n 0, 1) := by decide +kernel
theorem dX6_extra_36 : decode cX6_extra 36 = .ok (.getfield 10, 3) := by decide +kernel
theorem dX6_extra_39 : decode cX6_extra 39 = .ok (.getfield 118, 3) := by decide +kernel
theorem dX6_extra_42 : decode cX6_extra 42 = .ok (.iload_n 1, 1) := by decide +kernel
theorem dX6_extra_43 : decode cX6_extra 43 = .ok (.iload_n 2, 1) := by decide +kernel
theorem dX6_extra_44 : decode cX6_extra 44 = .ok (.invokevirtual 179, 3) := by decide +kernel
theorem dX6_extra_47 : decode cX6_extra 47 = .ok (.ireturn, 1) := by decide +kernel
theorem dX6_swap_0 : decode cX6_swap 0 = .ok (.iload_n 1, 1) := by decide +kernel
theorem dX6_swap_1 : decode cX6_swap 1 = .ok (.bipush 60, 2) := by decide +kernel
theorem dX6_swap_3 : decode cX6_swap 3 = .ok (.invokestatic 60, 3) := by decide +kernel
theorem dX6_swap_6 : decode cX6_swap 6 = .ok (.ifCond .eq 11, 3) := by decide +kernel
theorem dX6_swap_9 : decode cX6_swap 9 = .ok (.iload_n 2, 1) := by decide +kernel
theorem dX6_swap_10 : decode cX6_swap 10 = .ok (.iconst 1, 1) := by decide +kernel
theorem dX6_swap_11 : decode cX6_swap 11 = .ok (.invokestatic 60, 3) := by decide +kernel
theorem dX6_swap_14 : decode cX6_swap 14 = .ok (.ifCond .ne 5, 3) := by decide +kernel
theorem dX6_swap_17 : decode cX6_swap 17 = .ok (.iconst (-1), 1) := by decide +kernel
theorem dX6_swap_18 : decode cX6_swap 18 = .ok (.ireturn, 1) := by decide +kernel
theorem dX6_swap_19 : decode cX6_swap 19 = .ok (.aload_n 0, 1) := by decide +kernel
theorem dX6_swap_20 : decode cX6_swap 20 = .ok (.iload_n 1, 1) := by decide +kernel
theorem dX6_swap_21 : decode cX6_swap 21 = .ok (.invokevirtual 182, 3) := by decide +kernel
theorem dX6_swap_24 : decode cX6_swap 24 = .ok (.istore_n 3, 1) := by decide +kernel
theorem dX6_swap_25 : decode cX6_swap 25 = .ok (.bipush (-4), 2) := by decide +kernel
theorem dX6_swap_27 : decode cX6_swap 27 = .ok (.istore 4, 2) := by decide +kernel
theorem dX6_swap_29 : decode cX6_swap 29 = .ok (.iconst 0, 1) := by decide +kernel
theorem dX6_swap_30 : decode cX6_swap 30 = .ok (.istore 5, 2) := by decide +kernel
theorem dX6_swap_32 : decode cX6_swap 32 = .ok (.iload 5, 2) := by decide +kernel
theorem dX6_swap_34 : decode cX6_swap 34 = .ok (.aload_n 0, 1) := by decide +kernel
theorem dX6_swap_35 : decode cX6_swap 35 = .ok (.getfield 10, 3) := by decide +kernel
theorem dX6_swap_38 : decode cX6_swap 38 = .ok (.getfield 118, 3) := by decide +kernel
theorem dX6_swap_41 : decode cX6_swap 41 = .ok (.if_icmp .ge 63, 3) := by decide +kernel
theorem dX6_swap_44 : decode cX6_swap 44 = .ok (.iload 5, 2) := by decide +kernel
theorem dX6_swap_46 : decode cX6_swap 46 = .ok (.iconst 1, 1) := by decide +kernel
theorem dX6_swap_47 : decode cX6_swap 47 = .ok (.iadd, 1) := by decide +kernel
theorem dX6_swap_48 : decode cX6_swap 48 = .ok (.istore 6, 2) := by decide +kernel
theorem dX6_swap_50 : decode cX6_swap 50 = .ok (.iload 6, 2) := by decide +kernel
theorem dX6_swap_52 : decode cX6_swap 52 = .ok (.aload_n 0, 1) := by decide +kernel
theorem dX6_swap_53 : decode cX6_swap 53 = .ok (.getfield 10, 3) := by decide +kernel
theorem dX6_swap_56 : decode cX6_swap 56 = .ok (.getfield 118, 3) := by decide +kernel
theorem dX6_swap_59 : decode cX6_swap 59 = .ok (.if_icmp .ge 39, 3) := by decide +kernel
theorem dX6_swap_62 : decode cX6_swap 62 = .ok (.aload_n 0, 1) := by decide +kernel
theorem dX6_swap_63 : decode cX6_swap 63 = .ok (.iload 5, 2) := by decide +kernel
theorem dX6_swap_65 : decode cX6_swap 65 = .ok (.iload 6, 2) := by decide +kernel
theorem dX6_swap_67 : decode cX6_swap 67 = .ok (.iload_n 1, 1) := by decide +kernel
theorem dX6_swap_68 : decode cX6_swap 68 = .ok (.invokevirtual 185, 3) := by decide +kernel
theorem dX6_swap_71 : decode cX6_swap 71 = .ok (.istore 7, 2) := by decide +kernel
theorem dX6_swap_73 : decode cX6_swap 73 = .ok (.iload 7, 2) := by decide +kernel
theorem dX6_swap_75 : decode cX6_swap 75 = .ok (.iload_n 3, 1) := by decide +kernel
theorem dX6_swap_76 : decode cX6_swap 76 = .ok (.if_icmp .le 16, 3) := by decide +kernel
theorem dX6_swap_79 : decode cX6_swap 79 = .ok (.iload 7, 2) := by decide +kernel
theorem dX6_swap_81 : decode cX6_swap 81 = .ok (.istore_n 3, 1) := by decide +kernel
theorem dX6_swap_82 : decode cX6_swap 82 = .ok (.bipush 10, 2) := by decide +kernel
theorem dX6_swap_84 : decode cX6_swap 84 = .ok (.iload 5, 2) := by decide +kernel
theorem dX6_swap_86 : decode cX6_swap 86 = .ok (.imul, 1) := by decide +kernel
theorem dX6_swap_87 : decode cX6_swap 87 = .ok (.iload 6, 2) := by decide +kernel
theorem dX6_swap_89 : decode cX6_swap 89 = .ok (.iadd, 1) := by decide +kernel
theorem dX6_swap_90 : decode cX6_swap 90 = .ok (.istore 4, 2) := by decide +kernel
theorem dX6_swap_92 : decode cX6_swap 92 = .ok (.iinc 6 1, 3) := by decide +kernel
theorem dX6_swap_95 : decode cX6_swap 95 = .ok (.goto (-45), 3) := by decide +kernel
theorem dX6_swap_98 : decode cX6_swap 98 = .ok (.iinc 5 1, 3) := by decide +kernel
theorem dX6_swap_101 : decode cX6_swap 101 = .ok (.goto (-69), 3) := by decide +kernel
theorem dX6_swap_104 : decode cX6_swap 104 = .ok (.iload 4, 2) := by decide +kernel
theorem dX6_swap_106 : decode cX6_swap 106 = .ok (.bipush (-4), 2) := by decide +kernel
theorem dX6_swap_108 : decode cX6_swap 108 = .ok (.if_icmp .eq 7, 3) := by decide +kernel
theorem dX6_swap_111 : decode cX6_swap 111 = .ok (.iload_n 2, 1) := by decide +kernel
theorem dX6_swap_112 : decode cX6_swap 112 = .ok (.ifCond .ne 8, 3) := by decide +kernel
theorem dX6_swap_115 : decode cX6_swap 115 = .ok (.iload 4, 2) := by decide +kernel
theorem dX6_swap_117 : decode cX6_swap 117 = .ok (.goto 12, 3) := by decide +kernel
theorem dX6_swap_120 : decode cX6_swap 120 = .ok (.iload_n 3, 1) := by decide +kernel
theorem dX6_swap_121 : decode cX6_swap 121 = .ok (.aload_n 0, 1) := by decide +kernel
theorem dX6_swap_122 : decode cX6_swap 122 = .ok (.getfield 10, 3) := by decide +kernel
theorem dX6_swap_125 : decode cX6_swap 125 = .ok (.getfield 108, 3) := by decide +kernel
theorem dX6_swap_128 : decode cX6_swap 128 = .ok (.isub, 1) := by decide +kernel
theorem dX6_swap_129 : decode cX6_swap 129 = .ok (.ireturn, 1) := by decide +kernel
theorem dX6_shun_0 : decode cX6_shun 0 = .ok (.iload_n 1, 1) := by decide +kernel
theorem dX6_shun_1 : decode cX6_shun 1 = .ok (.bipush 60, 2) := by decide +kernel
theorem dX6_shun_3 : decode cX6_shun 3 = .ok (.invokestatic 60, 3) := by decide +kernel
theorem dX6_shun_6 : decode cX6_shun 6 = .ok (.ifCond .eq 11, 3) := by decide +kernel
theorem dX6_shun_9 : decode cX6_shun 9 = .ok (.iload_n 2, 1) := by decide +kernel
theorem dX6_shun_10 : decode cX6_shun 10 = .ok (.iconst 1, 1) := by decide +kernel
theorem dX6_shun_11 : decode cX6_shun 11 = .ok (.invokestatic 60, 3) := by decide +kernel
theorem dX6_shun_14 : decode cX6_shun 14 = .ok (.ifCond .ne 5, 3) := by decide +kernel
theorem dX6_shun_17 : decode cX6_shun 17 = .ok (.iconst (-1), 1) := by decide +kernel
theorem dX6_shun_18 : decode cX6_shun 18 = .ok (.ireturn, 1) := by decide +kernel
theorem dX6_shun_19 : decode cX6_shun 19 = .ok (.aload_n 0, 1) := by decide +kernel
theorem dX6_shun_20 : decode cX6_shun 20 = .ok (.iload_n 1, 1) := by decide +kernel
theorem dX6_shun_21 : decode cX6_shun 21 = .ok (.invokevirtual 182, 3) := by decide +kernel
theorem dX6_shun_24 : decode cX6_shun 24 = .ok (.istore_n 3, 1) := by decide +kernel
theorem dX6_shun_25 : decode cX6_shun 25 = .ok (.bipush (-4), 2) := by decide +kernel
theorem dX6_shun_27 : decode cX6_shun 27 = .ok (.istore 4, 2) := by decide +kernel
theorem dX6_shun_29 : decode cX6_shun 29 = .ok (.iconst 0, 1) := by decide +kernel
theorem dX6_shun_30 : decode cX6_shun 30 = .ok (.istore 5, 2) := by decide +kernel
theorem dX6_shun_32 : decode cX6_shun 32 = .ok (.iload 5, 2) := by decide +kernel
theorem dX6_shun_34 : decode cX6_shun 34 = .ok (.aload_n 0, 1) := by decide +kernel
theorem dX6_shun_35 : decode cX6_shun 35 = .ok (.getfield 10, 3) := by decide +kernel
theorem dX6_shun_38 : decode cX6_shun 38 = .ok (.getfield 118, 3) := by decide +kernel
theorem dX6_shun_41 : decode cX6_shun 41 = .ok (.if_icmp .ge 60, 3) := by decide +kernel
theorem dX6_shun_44 : decode cX6_shun 44 = .ok (.aload_n 0, 1) := by decide +kernel
theorem dX6_shun_45 : decode cX6_shun 45 = .ok (.getfield 23, 3) := by decide +kernel
theorem dX6_shun_48 : decode cX6_shun 48 = .ok (.aload_n 0, 1) := by decide +kernel
theorem dX6_shun_49 : decode cX6_shun 49 = .ok (.getfield 10, 3) := by decide +kernel
theorem dX6_shun_52 : decode cX6_shun 52 = .ok (.invokevirtual 85, 3) := by decide +kernel
theorem dX6_shun_55 : decode cX6_shun 55 = .ok (.aload_n 0, 1) := by decide +kernel
theorem dX6_shun_56 : decode cX6_shun 56 = .ok (.getfield 23, 3) := by decide +kernel
theorem dX6_shun_59 : decode cX6_shun 59 = .ok (.iload 5, 2) := by decide +kernel
theorem dX6_shun_61 : decode cX6_shun 61 = .ok (.invokevirtual 188, 3) := by decide +kernel
theorem dX6_shun_64 : decode cX6_shun 64 = .ok (.aload_n 0, 1) := by decide +kernel
theorem dX6_shun_65 : decode cX6_shun 65 = .ok (.getfield 23, 3) := by decide +kernel
theorem dX6_shun_68 : decode cX6_shun 68 = .ok (.iload_n 1, 1) := by decide +kernel
theorem dX6_shun_69 : decode cX6_shun 69 = .ok (.invokevirtual 170, 3) := by decide +kernel
theorem dX6_shun_72 : decode cX6_shun 72 = .ok (.aload_n 0, 1) := by decide +kernel
theorem dX6_shun_73 : decode cX6_shun 73 = .ok (.getfield 23, 3) := by decide +kernel
theorem dX6_shun_76 : decode cX6_shun 76 = .ok (.getfield 108, 3) := by decide +kernel
theorem dX6_shun_79 : decode cX6_shun 79 = .ok (.iload_n 3, 1) := by decide +kernel
theorem dX6_shun_80 : decode cX6_shun 80 = .ok (.if_icmp .le 15, 3) := by decide +kernel
theorem dX6_shun_83 : decode cX6_shun 83 = .ok (.aload_n 0, 1) := by decide +kernel
theorem dX6_shun_84 : decode cX6_shun 84 = .ok (.getfield 23, 3) := by decide +kernel
theorem dX6_shun_87 : decode cX6_shun 87 = .ok (.getfield 108, 3) := by decide +kernel
theorem dX6_shun_90 : decode cX6_shun 90 = .ok (.istore_n 3, 1) := by decide +kernel
theorem dX6_shun_91 : decode cX6_shun 91 = .ok (.iload 5, 2) := by decide +kernel
theorem dX6_shun_93 : decode cX6_shun 93 = .ok (.istore 4, 2) := by decide +kernel
theorem dX6_shun_95 : decode cX6_shun 95 = .ok (.iinc 5 1, 3) := by decide +kernel
theorem dX6_shun_98 : decode cX6_shun 98 = .ok (.goto (-66), 3) := by decide +kernel
theorem dX6_shun_101 : decode cX6_shun 101 = .ok (.iload 4, 2) := by decide +kernel
theorem dX6_shun_103 : decode cX6_shun 103 = .ok (.bipush (-4), 2) := by decide +kernel
theorem dX6_shun_105 : decode cX6_shun 105 = .ok (.if_icmp .eq 7, 3) := by decide +kernel
theorem dX6_shun_108 : decode cX6_shun 108 = .ok (.iload_n 2, 1) := by decide +kernel
theorem dX6_shun_109 : decode cX6_shun 109 = .ok (.ifCond .ne 8, 3) := by decide +kernel
theorem dX6_shun_112 : decode cX6_shun 112 = .ok (.iload 4, 2) := by decide +kernel
theorem dX6_shun_114 : decode cX6_shun 114 = .ok (.goto 12, 3) := by decide +kernel
theorem dX6_shun_117 : decode cX6_shun 117 = .ok (.iload_n 3, 1) := by decide +kernel
theorem dX6_shun_118 : decode cX6_shun 118 = .ok (.aload_n 0, 1) := by decide +kernel
theorem dX6_shun_119 : decode cX6_shun 119 = .ok (.getfield 10, 3) := by decide +kernel
theorem dX6_shun_122 : decode cX6_shun 122 = .ok (.getfield 108, 3) := by decide +kernel
theorem dX6_shun_125 : decode cX6_shun 125 = .ok (.isub, 1) := by decide +kernel
theorem dX6_shun_126 : decode cX6_shun 126 = .ok (.ireturn, 1) := by decide +kernel
theorem dX6_need_0 : decode cX6_need 0 = .ok (.aload_n 0, 1) := by decide +kernel
theorem dX6_need_1 : decode cX6_need 1 = .ok (.iload_n 1, 1) := by decide +kernel
theorem dX6_need_2 : decode cX6_need 2 = .ok (.invokevirtual 121, 3) := by decide +kernel
theorem dX6_need_5 : decode cX6_need 5 = .ok (.ifCond .eq 12, 3) := by decide +kernel
theorem dX6_need_8 : decode cX6_need 8 = .ok (.iload_n 2, 1) := by decide +kernel
theorem dX6_need_9 : decode cX6_need 9 = .ok (.bipush 60, 2) := by decide +kernel
theorem dX6_need_11 : decode cX6_need 11 = .ok (.invokestatic 60, 3) := by decide +kernel
theorem dX6_need_14 : decode cX6_need 14 = .ok (.ifCond .ne 5, 3) := by decide +kernel
theorem dX6_need_17 : decode cX6_need 17 = .ok (.iconst (-1), 1) := by decide +kernel
theorem dX6_need_18 : decode cX6_need 18 = .ok (.ireturn, 1) := by decide +kernel
theorem dX6_need_19 : decode cX6_need 19 = .ok (.aload_n 0, 1) := by decide +kernel
theorem dX6_need_20 : decode cX6_need 20 = .ok (.getfield 23, 3) := by decide +kernel
theorem dX6_need_23 : decode cX6_need 23 = .ok (.aload_n 0, 1) := by decide +kernel
theorem dX6_need_24 : decode cX6_need 24 = .ok (.getfield 10, 3) := by decide +kernel
theorem dX6_need_27 : decode cX6_need 27 = .ok (.invokevirtual 85, 3) := by decide +kernel
theorem dX6_need_30 : decode cX6_need 30 = .ok (.aload_n 0, 1) := by decide +kernel
theorem dX6_need_31 : decode cX6_need 31 = .ok (.getfield 23, 3) := by decide +kernel
theorem dX6_need_34 : decode cX6_need 34 = .ok (.iload_n 1, 1) := by decide +kernel
theorem dX6_need_35 : decode cX6_need 35 = .ok (.iconst 2, 1) := by decide +kernel
theorem dX6_need_36 : decode cX6_need 36 = .ok (.bipush 20, 2) := by decide +kernel
theorem dX6_need_38 : decode cX6_need 38 = .ok (.invokevirtual 162, 3) := by decide +kernel
theorem dX6_need_41 : decode cX6_need 41 = .ok (.aload_n 0, 1) := by decide +kernel
theorem dX6_need_42 : decode cX6_need 42 = .ok (.iconst 1, 1) := by decide +kernel
theorem dX6_need_43 : decode cX6_need 43 = .ok (.iload_n 1, 1) := by decide +kernel
theorem dX6_need_44 : decode cX6_need 44 = .ok (.ishl, 1) := by decide +kernel
theorem dX6_need_45 : decode cX6_need 45 = .ok (.iload_n 2, 1) := by decide +kernel
theorem dX6_need_46 : decode cX6_need 46 = .ok (.invokevirtual 173, 3) := by decide +kernel
theorem dX6_need_49 : decode cX6_need 49 = .ok (.ireturn, 1) := by decide +kernel
theorem dX6_kind_0 : decode cX6_kind 0 = .ok (.aload_n 0, 1) := by decide +kernel
theorem dX6_kind_1 : decode cX6_kind 1 = .ok (.iload_n 1, 1) := by decide +kernel
theorem dX6_kind_2 : decode cX6_kind 2 = .ok (.invokevirtual 121, 3) := by decide +kernel
theorem dX6_kind_5 : decode cX6_kind 5 = .ok (.ifCond .eq 20, 3) := by decide +kernel
theorem dX6_kind_8 : decode cX6_kind 8 = .ok (.iload_n 2, 1) := by decide +kernel
theorem dX6_kind_9 : decode cX6_kind 9 = .ok (.bipush 60, 2) := by decide +kernel
theorem dX6_kind_11 : decode cX6_kind 11 = .ok (.invokestatic 60, 3) := by decide +kernel
theorem dX6_kind_14 : decode cX6_kind 14 = .ok (.ifCond .eq 11, 3) := by decide +kernel
theorem dX6_kind_17 : decode cX6_kind 17 = .ok (.iload_n 3, 1) := by decide +kernel
theorem dX6_kind_18 : decode cX6_kind 18 = .ok (.iconst 1, 1) := by decide +kernel
theorem dX6_kind_19 : decode cX6_kind 19 = .ok (.invokestatic 60, 3) := by decide +kernel
theorem dX6_kind_22 : decode cX6_kind 22 = .ok (.ifCond .ne 5, 3) := by decide +kernel
theorem dX6_kind_25 : decode cX6_kind 25 = .ok (.iconst (-1), 1) := by decide +kernel
theorem dX6_kind_26 : decode cX6_kind 26 = .ok (.ireturn, 1) := by decide +kernel
theorem dX6_kind_27 : decode cX6_kind 27 = .ok (.aload_n 0, 1) := by decide +kernel
theorem dX6_kind_28 : decode cX6_kind 28 = .ok (.iload_n 1, 1) := by decide +kernel
theorem dX6_kind_29 : decode cX6_kind 29 = .ok (.iconst 0, 1) := by decide +kernel
theorem dX6_kind_30 : decode cX6_kind 30 = .ok (.iload_n 2, 1) := by decide +kernel
theorem dX6_kind_31 : decode cX6_kind 31 = .ok (.iload_n 3, 1) := by decide +kernel
theorem dX6_kind_32 : decode cX6_kind 32 = .ok (.invokevirtual 191, 3) := by decide +kernel
theorem dX6_kind_35 : decode cX6_kind 35 = .ok (.ireturn, 1) := by decide +kernel
theorem dX6_drop_0 : decode cX6_drop 0 = .ok (.aload_n 0, 1) := by decide +kernel
theorem dX6_drop_1 : decode cX6_drop 1 = .ok (.iload_n 1, 1) := by decide +kernel
theorem dX6_drop_2 : decode cX6_drop 2 = .ok (.invokevirtual 121, 3) := by decide +kernel
theorem dX6_drop_5 : decode cX6_drop 5 = .ok (.ifCond .eq 20, 3) := by decide +kernel
theorem dX6_drop_8 : decode cX6_drop 8 = .ok (.iload_n 2, 1) := by decide +kernel
theorem dX6_drop_9 : decode cX6_drop 9 = .ok (.bipush 60, 2) := by decide +kernel
theorem dX6_drop_11 : decode cX6_drop 11 = .ok (.invokestatic 60, 3) := by decide +kernel
theorem dX6_drop_14 : decode cX6_drop 14 = .ok (.ifCond .eq 11, 3) := by decide +kernel
theorem dX6_drop_17 : decode cX6_drop 17 = .ok (.iload_n 3, 1) := by decide +kernel
theorem dX6_drop_18 : decode cX6_drop 18 = .ok (.iconst 1, 1) := by decide +kernel
theorem dX6_drop_19 : decode cX6_drop 19 = .ok (.invokestatic 60, 3) := by decide +kernel
theorem dX6_drop_22 : decode cX6_drop 22 = .ok (.ifCond .ne 5, 3) := by decide +kernel
theorem dX6_drop_25 : decode cX6_drop 25 = .ok (.iconst (-1), 1) := by decide +kernel
theorem dX6_drop_26 : decode cX6_drop 26 = .ok (.ireturn, 1) := by decide +kernel
theorem dX6_drop_27 : decode cX6_drop 27 = .ok (.aload_n 0, 1) := by decide +kernel
theorem dX6_drop_28 : decode cX6_drop 28 = .ok (.getfield 10, 3) := by decide +kernel
theorem dX6_drop_31 : decode cX6_drop 31 = .ok (.iload_n 1, 1) := by decide +kernel
theorem dX6_drop_32 : decode cX6_drop 32 = .ok (.invokevirtual 129, 3) := by decide +kernel
theorem dX6_drop_35 : decode cX6_drop 35 = .ok (.ifCond .eq 6, 3) := by decide +kernel
theorem dX6_drop_38 : decode cX6_drop 38 = .ok (.bipush (-2), 2) := by decide +kernel
theorem dX6_drop_40 : decode cX6_drop 40 = .ok (.ireturn, 1) := by decide +kernel
theorem dX6_drop_41 : decode cX6_drop 41 = .ok (.aload_n 0, 1) := by decide +kernel
theorem dX6_drop_42 : decode cX6_drop 42 = .ok (.iload_n 1, 1) := by decide +kernel
theorem dX6_drop_43 : decode cX6_drop 43 = .ok (.iconst 1, 1) := by decide +kernel
theorem dX6_drop_44 : decode cX6_drop 44 = .ok (.iload_n 2, 1) := by decide +kernel
theorem dX6_drop_45 : decode cX6_drop 45 = .ok (.iload_n 3, 1) := by decide +kernel
theorem dX6_drop_46 : decode cX6_drop 46 = .ok (.invokevirtual 191, 3) := by decide +kernel
theorem dX6_drop_49 : decode cX6_drop 49 = .ok (.ireturn, 1) := by decide +kernel
theorem dX6_luck_0 : decode cX6_luck 0 = .ok (.iload_n 1, 1) := by decide +kernel
theorem dX6_luck_1 : decode cX6_luck 1 = .ok (.bipush 10, 2) := by decide +kernel
theorem dX6_luck_3 : decode cX6_luck 3 = .ok (.invokestatic 60, 3) := by decide +kernel
theorem dX6_luck_6 : decode cX6_luck 6 = .ok (.ifCond .eq 29, 3) := by decide +kernel
theorem dX6_luck_9 : decode cX6_luck 9 = .ok (.aload_n 0, 1) := by decide +kernel
theorem dX6_luck_10 : decode cX6_luck 10 = .ok (.iload_n 2, 1) := by decide +kernel
theorem dX6_luck_11 : decode cX6_luck 11 = .ok (.invokevirtual 121, 3) := by decide +kernel
theorem dX6_luck_14 : decode cX6_luck 14 = .ok (.ifCond .eq 21, 3) := by decide +kernel
theorem dX6_luck_17 : decode cX6_luck 17 = .ok (.iload_n 3, 1) := by decide +kernel
theorem dX6_luck_18 : decode cX6_luck 18 = .ok (.bipush 8, 2) := by decide +kernel
theorem dX6_luck_20 : decode cX6_luck 20 = .ok (.invokestatic 60, 3) := by decide +kernel
theorem dX6_luck_23 : decode cX6_luck 23 = .ok (.ifCond .eq 12, 3) := by decide +kernel
theorem dX6_luck_26 : decode cX6_luck 26 = .ok (.iload 4, 2) := by decide +kernel
theorem dX6_luck_28 : decode cX6_luck 28 = .ok (.iconst 1, 1) := by decide +kernel
theorem dX6_luck_29 : decode cX6_luck 29 = .ok (.invokestatic 60, 3) := by decide +kernel
theorem dX6_luck_32 : decode cX6_luck 32 = .ok (.ifCond .ne 7, 3) := by decide +kernel
theorem dX6_luck_35 : decode cX6_luck 35 = .ok (.ldc2_w 195, 3) := by decide +kernel
theorem dX6_luck_38 : decode cX6_luck 38 = .ok (.lreturn, 1) := by decide +kernel
theorem dX6_luck_39 : decode cX6_luck 39 = .ok (.aload_n 0, 1) := by decide +kernel
theorem dX6_luck_40 : decode cX6_luck 40 = .ok (.iload_n 1, 1) := by decide +kernel
theorem dX6_luck_41 : decode cX6_luck 41 = .ok (.iload_n 2, 1) := by decide +kernel
theorem dX6_luck_42 : decode cX6_luck 42 = .ok (.iload_n 3, 1) := by decide +kernel
theorem dX6_luck_43 : decode cX6_luck 43 = .ok (.iload 4, 2) := by decide +kernel
theorem dX6_luck_45 : decode cX6_luck 45 = .ok (.invokevirtual 197, 3) := by decide +kernel
theorem dX6_luck_48 : decode cX6_luck 48 = .ok (.lreturn, 1) := by decide +kernel
theorem dX6_mean_0 : decode cX6_mean 0 = .ok (.iload_n 1, 1) := by decide +kernel
theorem dX6_mean_1 : decode cX6_mean 1 = .ok (.bipush 10, 2) := by decide +kernel
theorem dX6_mean_3 : decode cX6_mean 3 = .ok (.invokestatic 60, 3) := by decide +kernel
theorem dX6_mean_6 : decode cX6_mean 6 = .ok (.ifCond .eq 20, 3) := by decide +kernel
theorem dX6_mean_9 : decode cX6_mean 9 = .ok (.iload_n 2, 1) := by decide +kernel
theorem dX6_mean_10 : decode cX6_mean 10 = .ok (.bipush 8, 2) := by decide +kernel
theorem dX6_mean_12 : decode cX6_mean 12 = .ok (.invokestatic 60, 3) := by decide +kernel
theorem dX6_mean_15 : decode cX6_mean 15 = .ok (.ifCond .eq 11, 3) := by decide +kernel
theorem dX6_mean_18 : decode cX6_mean 18 = .ok (.iload_n 3, 1) := by decide +kernel
theorem dX6_mean_19 : decode cX6_mean 19 = .ok (.iconst 1, 1) := by decide +kernel
theorem dX6_mean_20 : decode cX6_mean 20 = .ok (.invokestatic 60, 3) := by decide +kernel
theorem dX6_mean_23 : decode cX6_mean 23 = .ok (.ifCond .ne 7, 3) := by decide +kernel
theorem dX6_mean_26 : decode cX6_mean 26 = .ok (.ldc2_w 195, 3) := by decide +kernel
theorem dX6_mean_29 : decode cX6_mean 29 = .ok (.lreturn, 1) := by decide +kernel
theorem dX6_mean_30 : decode cX6_mean 30 = .ok (.aload_n 0, 1) := by decide +kernel
theorem dX6_mean_31 : decode cX6_mean 31 = .ok (.iload_n 1, 1) := by decide +kernel
theorem dX6_mean_32 : decode cX6_mean 32 = .ok (.iconst (-1), 1) := by decide +kernel
theorem dX6_mean_33 : decode cX6_mean 33 = .ok (.iload_n 2, 1) := by decide +kernel
theorem dX6_mean_34 : decode cX6_mean 34 = .ok (.iload_n 3, 1) := by decide +kernel
theorem dX6_mean_35 : decode cX6_mean 35 = .ok (.invokevirtual 197, 3) := by decide +kernel
theorem dX6_mean_38 : decode cX6_mean 38 = .ok (.lreturn, 1) := by decide +kernel
theorem dX6_see_0 : decode cX6_see 0 = .ok (.iload_n 1, 1) := by decide +kernel
theorem dX6_see_1 : decode cX6_see 1 = .ok (.bipush 20, 2) := by decide +kernel
theorem dX6_see_3 : decode cX6_see 3 = .ok (.invokestatic 60, 3) := by decide +kernel
theorem dX6_see_6 : decode cX6_see 6 = .ok (.ifCond .eq 18, 3) := by decide +kernel
theorem dX6_see_9 : decode cX6_see 9 = .ok (.aload_n 0, 1) := by decide +kernel
theorem dX6_see_10 : decode cX6_see 10 = .ok (.iload_n 2, 1) := by decide +kernel
theorem dX6_see_11 : decode cX6_see 11 = .ok (.invokevirtual 121, 3) := by decide +kernel
theorem dX6_see_14 : decode cX6_see 14 = .ok (.ifCond .eq 10, 3) := by decide +kernel
theorem dX6_see_17 : decode cX6_see 17 = .ok (.iload_n 3, 1) := by decide +kernel
theorem dX6_see_18 : decode cX6_see 18 = .ok (.invokestatic 143, 3) := by decide +kernel
theorem dX6_see_21 : decode cX6_see 21 = .ok (.ifCond .ne 5, 3) := by decide +kernel
theorem dX6_see_24 : decode cX6_see 24 = .ok (.iconst (-1), 1) := by decide +kernel
theorem dX6_see_25 : decode cX6_see 25 = .ok (.ireturn, 1) := by decide +kernel
theorem dX6_see_26 : decode cX6_see 26 = .ok (.aload_n 0, 1) := by decide +kernel
theorem dX6_see_27 : decode cX6_see 27 = .ok (.getfield 19, 3) := by decide +kernel
theorem dX6_see_30 : decode cX6_see 30 = .ok (.getfield 89, 3) := by decide +kernel
theorem dX6_see_33 : decode cX6_see 33 = .ok (.bipush 6, 2) := by decide +kernel
theorem dX6_see_35 : decode cX6_see 35 = .ok (.if_icmp .lt 6, 3) := by decide +kernel
theorem dX6_see_38 : decode cX6_see 38 = .ok (.bipush (-3), 2) := by decide +kernel
theorem dX6_see_40 : decode cX6_see 40 = .ok (.ireturn, 1) := by decide +kernel
theorem dX6_see_41 : decode cX6_see 41 = .ok (.aload_n 0, 1) := by decide +kernel
theorem dX6_see_42 : decode cX6_see 42 = .ok (.getfield 19, 3) := by decide +kernel
theorem dX6_see_45 : decode cX6_see 45 = .ok (.iload_n 1, 1) := by decide +kernel
theorem dX6_see_46 : decode cX6_see 46 = .ok (.iload_n 2, 1) := by decide +kernel
theorem dX6_see_47 : decode cX6_see 47 = .ok (.iload_n 3, 1) := by decide +kernel
theorem dX6_see_48 : decode cX6_see 48 = .ok (.invokevirtual 201, 3) := by decide +kernel
theorem dX6_see_51 : decode cX6_see 51 = .ok (.aload_n 0, 1) := by decide +kernel
theorem dX6_see_52 : decode cX6_see 52 = .ok (.getfield 19, 3) := by decide +kernel
theorem dX6_see_55 : decode cX6_see 55 = .ok (.getfield 89, 3) := by decide +kernel
theorem dX6_see_58 : decode cX6_see 58 = .ok (.ireturn, 1) := by decide +kernel
theorem dX6_forget_0 : decode cX6_forget 0 = .ok (.iload_n 1, 1) := by decide +kernel
theorem dX6_forget_1 : decode cX6_forget 1 = .ok (.aload_n 0, 1) := by decide +kernel
theorem dX6_forget_2 : decode cX6_forget 2 = .ok (.getfield 19, 3) := by decide +kernel
theorem dX6_forget_5 : decode cX6_forget 5 = .ok (.getfield 89, 3) := by decide +kernel
theorem dX6_forget_8 : decode cX6_forget 8 = .ok (.invokestatic 60, 3) := by decide +kernel
theorem dX6_forget_11 : decode cX6_forget 11 = .ok (.ifCond .ne 5, 3) := by decide +kernel
theorem dX6_forget_14 : decode cX6_forget 14 = .ok (.iconst (-1), 1) := by decide +kernel
theorem dX6_forget_15 : decode cX6_forget 15 = .ok (.ireturn, 1) := by decide +kernel
theorem dX6_forget_16 : decode cX6_forget 16 = .ok (.aload_n 0, 1) := by decide +kernel
theorem dX6_forget_17 : decode cX6_forget 17 = .ok (.getfield 19, 3) := by decide +kernel
theorem dX6_forget_20 : decode cX6_forget 20 = .ok (.getfield 89, 3) := by decide +kernel
theorem dX6_forget_23 : decode cX6_forget 23 = .ok (.istore_n 2, 1) := by decide +kernel
theorem dX6_forget_24 : decode cX6_forget 24 = .ok (.aload_n 0, 1) := by decide +kernel
theorem dX6_forget_25 : decode cX6_forget 25 = .ok (.getfield 19, 3) := by decide +kernel
theorem dX6_forget_28 : decode cX6_forget 28 = .ok (.iload_n 1, 1) := by decide +kernel
theorem dX6_forget_29 : decode cX6_forget 29 = .ok (.putfield 89, 3) := by decide +kernel
theorem dX6_forget_32 : decode cX6_forget 32 = .ok (.iload_n 2, 1) := by decide +kernel
theorem dX6_forget_33 : decode cX6_forget 33 = .ok (.ireturn, 1) := by decide +kernel
theorem dX6_kinds_0 : decode cX6_kinds 0 = .ok (.aload_n 0, 1) := by decide +kernel
theorem dX6_kinds_1 : decode cX6_kinds 1 = .ok (.iload_n 1, 1) := by decide +kernel
theorem dX6_kinds_2 : decode cX6_kinds 2 = .ok (.invokevirtual 121, 3) := by decide +kernel
theorem dX6_kinds_5 : decode cX6_kinds 5 = .ok (.ifCond .eq 12, 3) := by decide +kernel
theorem dX6_kinds_8 : decode cX6_kinds 8 = .ok (.aload_n 0, 1) := by decide +kernel
theorem dX6_kinds_9 : decode cX6_kinds 9 = .ok (.iload_n 1, 1) := by decide +kernel
theorem dX6_kinds_10 : decode cX6_kinds 10 = .ok (.iconst 0, 1) := by decide +kernel
theorem dX6_kinds_11 : decode cX6_kinds 11 = .ok (.invokevirtual 204, 3) := by decide +kernel
theorem dX6_kinds_14 : decode cX6_kinds 14 = .ok (.goto 4, 3) := by decide +kernel
theorem dX6_kinds_17 : decode cX6_kinds 17 = .ok (.iconst (-1), 1) := by decide +kernel
theorem dX6_kinds_18 : decode cX6_kinds 18 = .ok (.ireturn, 1) := by decide +kernel
theorem dX6_doors_0 : decode cX6_doors 0 = .ok (.aload_n 0, 1) := by decide +kernel
theorem dX6_doors_1 : decode cX6_doors 1 = .ok (.iload_n 1, 1) := by decide +kernel
theorem dX6_doors_2 : decode cX6_doors 2 = .ok (.invokevirtual 121, 3) := by decide +kernel
theorem dX6_doors_5 : decode cX6_doors 5 = .ok (.ifCond .ne 5, 3) := by decide +kernel
theorem dX6_doors_8 : decode cX6_doors 8 = .ok (.iconst (-1), 1) := by decide +kernel
theorem dX6_doors_9 : decode cX6_doors 9 = .ok (.ireturn, 1) := by decide +kernel
theorem dX6_doors_10 : decode cX6_doors 10 = .ok (.aload_n 0, 1) := by decide +kernel
theorem dX6_doors_11 : decode cX6_doors 11 = .ok (.getfield 10, 3) := by decide +kernel
theorem dX6_doors_14 : decode cX6_doors 14 = .ok (.iload_n 1, 1) := by decide +kernel
theorem dX6_doors_15 : decode cX6_doors 15 = .ok (.invokevirtual 129, 3) := by decide +kernel
theorem dX6_doors_18 : decode cX6_doors 18 = .ok (.ifCond .eq 8, 3) := by decide +kernel
theorem dX6_doors_21 : decode cX6_doors 21 = .ok (.bipush (-2), 2) := by decide +kernel
theorem dX6_doors_23 : decode cX6_doors 23 = .ok (.goto 9, 3) := by decide +kernel
theorem dX6_doors_26 : decode cX6_doors 26 = .ok (.aload_n 0, 1) := by decide +kernel
theorem dX6_doors_27 : decode cX6_doors 27 = .ok (.iload_n 1, 1) := by decide +kernel
theorem dX6_doors_28 : decode cX6_doors 28 = .ok (.iconst 1, 1) := by decide +kernel
theorem dX6_doors_29 : decode cX6_doors 29 = .ok (.invokevirtual 204, 3) := by decide +kernel
theorem dX6_doors_32 : decode cX6_doors 32 = .ok (.ireturn, 1) := by decide +kernel
theorem dX6_ask_0 : decode cX6_ask 0 = .ok (.aload_n 0, 1) := by decide +kernel
theorem dX6_ask_1 : decode cX6_ask 1 = .ok (.iload_n 1, 1) := by decide +kernel
theorem dX6_ask_2 : decode cX6_ask 2 = .ok (.invokevirtual 121, 3) := by decide +kernel
theorem dX6_ask_5 : decode cX6_ask 5 = .ok (.ifCond .eq 11, 3) := by decide +kernel
theorem dX6_ask_8 : decode cX6_ask 8 = .ok (.iload_n 2, 1) := by decide +kernel
theorem dX6_ask_9 : decode cX6_ask 9 = .ok (.iconst 1, 1) := by decide +kernel
theorem dX6_ask_10 : decode cX6_ask 10 = .ok (.invokestatic 60, 3) := by decide +kernel
theorem dX6_ask_13 : decode cX6_ask 13 = .ok (.ifCond .ne 5, 3) := by decide +kernel
theorem dX6_ask_16 : decode cX6_ask 16 = .ok (.iconst (-1), 1) := by decide +kernel
theorem dX6_ask_17 : decode cX6_ask 17 = .ok (.ireturn, 1) := by decide +kernel
theorem dX6_ask_18 : decode cX6_ask 18 = .ok (.aload_n 0, 1) := by decide +kernel
theorem dX6_ask_19 : decode cX6_ask 19 = .ok (.iload_n 1, 1) := by decide +kernel
theorem dX6_ask_20 : decode cX6_ask 20 = .ok (.iconst 0, 1) := by decide +kernel
theorem dX6_ask_21 : decode cX6_ask 21 = .ok (.invokevirtual 204, 3) := by decide +kernel
theorem dX6_ask_24 : decode cX6_ask 24 = .ok (.istore_n 3, 1) := by decide +kernel
theorem dX6_ask_25 : decode cX6_ask 25 = .ok (.iconst 0, 1) := by decide +kernel
theorem dX6_ask_26 : decode cX6_ask 26 = .ok (.istore 4, 2) := by decide +kernel
theorem dX6_ask_28 : decode cX6_ask 28 = .ok (.iload 4, 2) := by decide +kernel
theorem dX6_ask_30 : decode cX6_ask 30 = .ok (.iconst 4, 1) := by decide +kernel
theorem dX6_ask_31 : decode cX6_ask 31 = .ok (.if_icmp .ge 37, 3) := by decide +kernel
theorem dX6_ask_34 : decode cX6_ask 34 = .ok (.aload_n 0, 1) := by decide +kernel
theorem dX6_ask_35 : decode cX6_ask 35 = .ok (.getfield 26, 3) := by decide +kernel
theorem dX6_ask_38 : decode cX6_ask 38 = .ok (.iload 4, 2) := by decide +kernel
theorem dX6_ask_40 : decode cX6_ask 40 = .ok (.aaload, 1) := by decide +kernel
theorem dX6_ask_41 : decode cX6_ask 41 = .ok (.aload_n 0, 1) := by decide +kernel
theorem dX6_ask_42 : decode cX6_ask 42 = .ok (.getfield 10, 3) := by decide +kernel
theorem dX6_ask_45 : decode cX6_ask 45 = .ok (.invokevirtual 85, 3) := by decide +kernel
theorem dX6_ask_48 : decode cX6_ask 48 = .ok (.aload_n 0, 1) := by decide +kernel
theorem dX6_ask_49 : decode cX6_ask 49 = .ok (.getfield 26, 3) := by decide +kernel
theorem dX6_ask_52 : decode cX6_ask 52 = .ok (.iload 4, 2) := by decide +kernel
theorem dX6_ask_54 : decode cX6_ask 54 = .ok (.aaload, 1) := by decide +kernel
theorem dX6_ask_55 : decode cX6_ask 55 = .ok (.iload_n 1, 1) := by decide +kernel
theorem dX6_ask_56 : decode cX6_ask 56 = .ok (.iconst 0, 1) := by decide +kernel
theorem dX6_ask_57 : decode cX6_ask 57 = .ok (.iload 4, 2) := by decide +kernel
theorem dX6_ask_59 : decode cX6_ask 59 = .ok (.invokevirtual 162, 3) := by decide +kernel
theorem dX6_ask_62 : decode cX6_ask 62 = .ok (.iinc 4 1, 3) := by decide +kernel
theorem dX6_ask_65 : decode cX6_ask 65 = .ok (.goto (-37), 3) := by decide +kernel
theorem dX6_ask_68 : decode cX6_ask 68 = .ok (.iload_n 3, 1) := by decide +kernel
theorem dX6_ask_69 : decode cX6_ask 69 = .ok (.invokestatic 207, 3) := by decide +kernel
theorem dX6_ask_72 : decode cX6_ask 72 = .ok (.istore 4, 2) := by decide +kernel
theorem dX6_ask_74 : decode cX6_ask 74 = .ok (.bipush (-4), 2) := by decide +kernel
theorem dX6_ask_76 : decode cX6_ask 76 = .ok (.istore 5, 2) := by decide +kernel
theorem dX6_ask_78 : decode cX6_ask 78 = .ok (.iconst 0, 1) := by decide +kernel
theorem dX6_ask_79 : decode cX6_ask 79 = .ok (.istore 6, 2) := by decide +kernel
theorem dX6_ask_81 : decode cX6_ask 81 = .ok (.iload 6, 2) := by decide +kernel
theorem dX6_ask_83 : decode cX6_ask 83 = .ok (.bipush 20, 2) := by decide +kernel
theorem dX6_ask_85 : decode cX6_ask 85 = .ok (.if_icmp .gt 58, 3) := by decide +kernel
theorem dX6_ask_88 : decode cX6_ask 88 = .ok (.aload_n 0, 1) := by decide +kernel
theorem dX6_ask_89 : decode cX6_ask 89 = .ok (.iload_n 1, 1) := by decide +kernel
theorem dX6_ask_90 : decode cX6_ask 90 = .ok (.iload_n 3, 1) := by decide +kernel
theorem dX6_ask_91 : decode cX6_ask 91 = .ok (.invokevirtual 212, 3) := by decide +kernel
theorem dX6_ask_94 : decode cX6_ask 94 = .ok (.istore 7, 2) := by decide +kernel
theorem dX6_ask_96 : decode cX6_ask 96 = .ok (.iload 7, 2) := by decide +kernel
theorem dX6_ask_98 : decode cX6_ask 98 = .ok (.iload 4, 2) := by decide +kernel
theorem dX6_ask_100 : decode cX6_ask 100 = .ok (.if_icmp .ge 11, 3) := by decide +kernel
theorem dX6_ask_103 : decode cX6_ask 103 = .ok (.iload 7, 2) := by decide +kernel
theorem dX6_ask_105 : decode cX6_ask 105 = .ok (.istore 4, 2) := by decide +kernel
theorem dX6_ask_107 : decode cX6_ask 107 = .ok (.iload 6, 2) := by decide +kernel
theorem dX6_ask_109 : decode cX6_ask 109 = .ok (.istore 5, 2) := by decide +kernel
theorem dX6_ask_111 : decode cX6_ask 111 = .ok (.iconst 0, 1) := by decide +kernel
theorem dX6_ask_112 : decode cX6_ask 112 = .ok (.istore 8, 2) := by decide +kernel
theorem dX6_ask_114 : decode cX6_ask 114 = .ok (.iload 8, 2) := by decide +kernel
theorem dX6_ask_116 : decode cX6_ask 116 = .ok (.iconst 4, 1) := by decide +kernel
theorem dX6_ask_117 : decode cX6_ask 117 = .ok (.if_icmp .ge 20, 3) := by decide +kernel
theorem dX6_ask_120 : decode cX6_ask 120 = .ok (.aload_n 0, 1) := by decide +kernel
theorem dX6_ask_121 : decode cX6_ask 121 = .ok (.getfield 26, 3) := by decide +kernel
theorem dX6_ask_124 : decode cX6_ask 124 = .ok (.iload 8, 2) := by decide +kernel
theorem dX6_ask_126 : decode cX6_ask 126 = .ok (.aaload, 1) := by decide +kernel
theorem dX6_ask_127 : decode cX6_ask 127 = .ok (.iconst 1, 1) := by decide +kernel
theorem dX6_ask_128 : decode cX6_ask 128 = .ok (.invokevirtual 170, 3) := by decide +kernel
theorem dX6_ask_131 : decode cX6_ask 131 = .ok (.iinc 8 1, 3) := by decide +kernel
theorem dX6_ask_134 : decode cX6_ask 134 = .ok (.goto (-20), 3) := by decide +kernel
theorem dX6_ask_137 : decode cX6_ask 137 = .ok (.iinc 6 1, 3) := by decide +kernel
theorem dX6_ask_140 : decode cX6_ask 140 = .ok (.goto (-59), 3) := by decide +kernel
theorem dX6_ask_143 : decode cX6_ask 143 = .ok (.iload 5, 2) := by decide +kernel
theorem dX6_ask_145 : decode cX6_ask 145 = .ok (.bipush (-4), 2) := by decide +kernel
theorem dX6_ask_147 : decode cX6_ask 147 = .ok (.if_icmp .eq 7, 3) := by decide +kernel
theorem dX6_ask_150 : decode cX6_ask 150 = .ok (.iload_n 2, 1) := by decide +kernel
theorem dX6_ask_151 : decode cX6_ask 151 = .ok (.ifCond .ne 8, 3) := by decide +kernel
theorem dX6_ask_154 : decode cX6_ask 154 = .ok (.iload 5, 2) := by decide +kernel
theorem dX6_ask_156 : decode cX6_ask 156 = .ok (.goto 5, 3) := by decide +kernel
theorem dX6_ask_159 : decode cX6_ask 159 = .ok (.iload 4, 2) := by decide +kernel
theorem dX6_ask_161 : decode cX6_ask 161 = .ok (.ireturn, 1) := by decide +kernel
theorem dX6_drift_0 : decode cX6_drift 0 = .ok (.iload_n 2, 1) := by decide +kernel
theorem dX6_drift_1 : decode cX6_drift 1 = .ok (.iconst 1, 1) := by decide +kernel
theorem dX6_drift_2 : decode cX6_drift 2 = .ok (.if_icmp .lt 17, 3) := by decide +kernel
theorem dX6_drift_5 : decode cX6_drift 5 = .ok (.iload_n 2, 1) := by decide +kernel
theorem dX6_drift_6 : decode cX6_drift 6 = .ok (.bipush 60, 2) := by decide +kernel
theorem dX6_drift_8 : decode cX6_drift 8 = .ok (.if_icmp .gt 11, 3) := by decide +kernel
theorem dX6_drift_11 : decode cX6_drift 11 = .ok (.iload_n 3, 1) := by decide +kernel
theorem dX6_drift_12 : decode cX6_drift 12 = .ok (.iconst 1, 1) := by decide +kernel
theorem dX6_drift_13 : decode cX6_drift 13 = .ok (.invokestatic 60, 3) := by decide +kernel
theorem dX6_drift_16 : decode cX6_drift 16 = .ok (.ifCond .ne 5, 3) := by decide +kernel
theorem dX6_drift_19 : decode cX6_drift 19 = .ok (.iconst (-1), 1) := by decide +kernel
theorem dX6_drift_20 : decode cX6_drift 20 = .ok (.ireturn, 1) := by decide +kernel
theorem dX6_drift_21 : decode cX6_drift 21 = .ok (.aload_n 0, 1) := by decide +kernel
theorem dX6_drift_22 : decode cX6_drift 22 = .ok (.getfield 23, 3) := by decide +kernel
theorem dX6_drift_25 : decode cX6_drift 25 = .ok (.aload_n 0, 1) := by decide +kernel
theorem dX6_drift_26 : decode cX6_drift 26 = .ok (.getfield 10, 3) := by decide +kernel
theorem dX6_drift_29 : decode cX6_drift 29 = .ok (.invokevirtual 85, 3) := by decide +kernel
theorem dX6_drift_32 : decode cX6_drift 32 = .ok (.iload_n 1, 1) := by decide +kernel
theorem dX6_drift_33 : decode cX6_drift 33 = .ok (.istore 4, 2) := by decide +kernel
theorem dX6_drift_35 : decode cX6_drift 35 = .ok (.iconst 0, 1) := by decide +kernel
theorem dX6_drift_36 : decode cX6_drift 36 = .ok (.istore 5, 2) := by decide +kernel
theorem dX6_drift_38 : decode cX6_drift 38 = .ok (.iload 5, 2) := by decide +kernel
theorem dX6_drift_40 : decode cX6_drift 40 = .ok (.iload_n 2, 1) := by decide +kernel
theorem dX6_drift_41 : decode cX6_drift 41 = .ok (.if_icmp .ge 39, 3) := by decide +kernel
theorem dX6_drift_44 : decode cX6_drift 44 = .ok (.iload 4, 2) := by decide +kernel
theorem dX6_drift_46 : decode cX6_drift 46 = .ok (.ldc 215, 2) := by decide +kernel
theorem dX6_drift_48 : decode cX6_drift 48 = .ok (.imul, 1) := by decide +kernel
theorem dX6_drift_49 : decode cX6_drift 49 = .ok (.sipush 12345, 3) := by decide +kernel
theorem dX6_drift_52 : decode cX6_drift 52 = .ok (.iadd, 1) := by decide +kernel
theorem dX6_drift_53 : decode cX6_drift 53 = .ok (.istore 4, 2) := by decide +kernel
theorem dX6_drift_55 : decode cX6_drift 55 = .ok (.aload_n 0, 1) := by decide +kernel
theorem dX6_drift_56 : decode cX6_drift 56 = .ok (.getfield 23, 3) := by decide +kernel
theorem dX6_drift_59 : decode cX6_drift 59 = .ok (.iload 4, 2) := by decide +kernel
theorem dX6_drift_61 : decode cX6_drift 61 = .ok (.bipush 16, 2) := by decide +kernel
theorem dX6_drift_63 : decode cX6_drift 63 = .ok (.iushr, 1) := by decide +kernel
theorem dX6_drift_64 : decode cX6_drift 64 = .ok (.sipush 32767, 3) := by decide +kernel
theorem dX6_drift_67 : decode cX6_drift 67 = .ok (.iand, 1) := by decide +kernel
theorem dX6_drift_68 : decode cX6_drift 68 = .ok (.bipush 12, 2) := by decide +kernel
theorem dX6_drift_70 : decode cX6_drift 70 = .ok (.irem, 1) := by decide +kernel
theorem dX6_drift_71 : decode cX6_drift 71 = .ok (.invokevirtual 216, 3) := by decide +kernel
theorem dX6_drift_74 : decode cX6_drift 74 = .ok (.iinc 5 1, 3) := by decide +kernel
theorem dX6_drift_77 : decode cX6_drift 77 = .ok (.goto (-39), 3) := by decide +kernel
theorem dX6_drift_80 : decode cX6_drift 80 = .ok (.iload_n 3, 1) := by decide +kernel
theorem dX6_drift_81 : decode cX6_drift 81 = .ok (.ifCond .ne 21, 3) := by decide +kernel
theorem dX6_drift_84 : decode cX6_drift 84 = .ok (.aload_n 0, 1) := by decide +kernel
theorem dX6_drift_85 : decode cX6_drift 85 = .ok (.getfield 23, 3) := by decide +kernel
theorem dX6_drift_88 : decode cX6_drift 88 = .ok (.getfield 108, 3) := by decide +kernel
theorem dX6_drift_91 : decode cX6_drift 91 = .ok (.aload_n 0, 1) := by decide +kernel
theorem dX6_drift_92 : decode cX6_drift 92 = .ok (.getfield 10, 3) := by decide +kernel
theorem dX6_drift_95 : decode cX6_drift 95 = .ok (.getfield 108, 3) := by decide +kernel
theorem dX6_drift_98 : decode cX6_drift 98 = .ok (.isub, 1) := by decide +kernel
theorem dX6_drift_99 : decode cX6_drift 99 = .ok (.goto 10, 3) := by decide +kernel
theorem dX6_drift_102 : decode cX6_drift 102 = .ok (.aload_n 0, 1) := by decide +kernel
theorem dX6_drift_103 : decode cX6_drift 103 = .ok (.getfield 23, 3) := by decide +kernel
theorem dX6_drift_106 : decode cX6_drift 106 = .ok (.invokevirtual 219, 3) := by decide +kernel
theorem dX6_drift_109 : decode cX6_drift 109 = .ok (.ireturn, 1) := by decide +kernel
theorem dX6_keep_0 : decode cX6_keep 0 = .ok (.iload_n 1, 1) := by decide +kernel
theorem dX6_keep_1 : decode cX6_keep 1 = .ok (.iconst 1, 1) := by decide +kernel
theorem dX6_keep_2 : decode cX6_keep 2 = .ok (.invokestatic 60, 3) := by decide +kernel
theorem dX6_keep_5 : decode cX6_keep 5 = .ok (.ifCond .ne 5, 3) := by decide +kernel
theorem dX6_keep_8 : decode cX6_keep 8 = .ok (.iconst (-1), 1) := by decide +kernel
theorem dX6_keep_9 : decode cX6_keep 9 = .ok (.ireturn, 1) := by decide +kernel
theorem dX6_keep_10 : decode cX6_keep 10 = .ok (.aload_n 0, 1) := by decide +kernel
theorem dX6_keep_11 : decode cX6_keep 11 = .ok (.getfield 48, 3) := by decide +kernel
theorem dX6_keep_14 : decode cX6_keep 14 = .ok (.iload_n 1, 1) := by decide +kernel
theorem dX6_keep_15 : decode cX6_keep 15 = .ok (.aaload, 1) := by decide +kernel
theorem dX6_keep_16 : decode cX6_keep 16 = .ok (.astore_n 2, 1) := by decide +kernel
theorem dX6_keep_17 : decode cX6_keep 17 = .ok (.aload_n 2, 1) := by decide +kernel
theorem dX6_keep_18 : decode cX6_keep 18 = .ok (.getfield 92, 3) := by decide +kernel
theorem dX6_keep_21 : decode cX6_keep 21 = .ok (.ifCond .eq 7, 3) := by decide +kernel
theorem dX6_keep_24 : decode cX6_keep 24 = .ok (.iconst 1, 1) := by decide +kernel
theorem dX6_keep_25 : decode cX6_keep 25 = .ok (.goto 4, 3) := by decide +kernel
theorem dX6_keep_28 : decode cX6_keep 28 = .ok (.iconst 0, 1) := by decide +kernel
theorem dX6_keep_29 : decode cX6_keep 29 = .ok (.istore_n 3, 1) := by decide +kernel
theorem dX6_keep_30 : decode cX6_keep 30 = .ok (.aload_n 2, 1) := by decide +kernel
theorem dX6_keep_31 : decode cX6_keep 31 = .ok (.iconst 1, 1) := by decide +kernel
theorem dX6_keep_32 : decode cX6_keep 32 = .ok (.putfield 92, 3) := by decide +kernel
theorem dX6_keep_35 : decode cX6_keep 35 = .ok (.aload_n 2, 1) := by decide +kernel
theorem dX6_keep_36 : decode cX6_keep 36 = .ok (.getfield 222, 3) := by decide +kernel
theorem dX6_keep_39 : decode cX6_keep 39 = .ok (.aload_n 0, 1) := by decide +kernel
theorem dX6_keep_40 : decode cX6_keep 40 = .ok (.getfield 10, 3) := by decide +kernel
theorem dX6_keep_43 : decode cX6_keep 43 = .ok (.invokevirtual 85, 3) := by decide +kernel
theorem dX6_keep_46 : decode cX6_keep 46 = .ok (.aload_n 2, 1) := by decide +kernel
theorem dX6_keep_47 : decode cX6_keep 47 = .ok (.getfield 225, 3) := by decide +kernel
theorem dX6_keep_50 : decode cX6_keep 50 = .ok (.aload_n 0, 1) := by decide +kernel
theorem dX6_keep_51 : decode cX6_keep 51 = .ok (.getfield 19, 3) := by decide +kernel
theorem dX6_keep_54 : decode cX6_keep 54 = .ok (.invokevirtual 226, 3) := by decide +kernel
theorem dX6_keep_57 : decode cX6_keep 57 = .ok (.iload_n 3, 1) := by decide +kernel
theorem dX6_keep_58 : decode cX6_keep 58 = .ok (.ireturn, 1) := by decide +kernel
theorem dX6_back_0 : decode cX6_back 0 = .ok (.iload_n 1, 1) := by decide +kernel
theorem dX6_back_1 : decode cX6_back 1 = .ok (.iconst 1, 1) := by decide +kernel
theorem dX6_back_2 : decode cX6_back 2 = .ok (.invokestatic 60, 3) := by decide +kernel
theorem dX6_back_5 : decode cX6_back 5 = .ok (.ifCond .ne 5, 3) := by decide +kernel
theorem dX6_back_8 : decode cX6_back 8 = .ok (.iconst (-1), 1) := by decide +kernel
theorem dX6_back_9 : decode cX6_back 9 = .ok (.ireturn, 1) := by decide +kernel
theorem dX6_back_10 : decode cX6_back 10 = .ok (.aload_n 0, 1) := by decide +kernel
theorem dX6_back_11 : decode cX6_back 11 = .ok (.getfield 48, 3) := by decide +kernel
theorem dX6_back_14 : decode cX6_back 14 = .ok (.iload_n 1, 1) := by decide +kernel
theorem dX6_back_15 : decode cX6_back 15 = .ok (.aaload, 1) := by decide +kernel
theorem dX6_back_16 : decode cX6_back 16 = .ok (.astore_n 2, 1) := by decide +kernel
theorem dX6_back_17 : decode cX6_back 17 = .ok (.aload_n 2, 1) := by decide +kernel
theorem dX6_back_18 : decode cX6_back 18 = .ok (.getfield 92, 3) := by decide +kernel
theorem dX6_back_21 : decode cX6_back 21 = .ok (.ifCond .ne 6, 3) := by decide +kernel
theorem dX6_back_24 : decode cX6_back 24 = .ok (.bipush (-2), 2) := by decide +kernel
theorem dX6_back_26 : decode cX6_back 26 = .ok (.ireturn, 1) := by decide +kernel
theorem dX6_back_27 : decode cX6_back 27 = .ok (.aload_n 0, 1) := by decide +kernel
theorem dX6_back_28 : decode cX6_back 28 = .ok (.getfield 10, 3) := by decide +kernel
theorem dX6_back_31 : decode cX6_back 31 = .ok (.aload_n 2, 1) := by decide +kernel
theorem dX6_back_32 : decode cX6_back 32 = .ok (.getfield 222, 3) := by decide +kernel
theorem dX6_back_35 : decode cX6_back 35 = .ok (.invokevirtual 85, 3) := by decide +kernel
theorem dX6_back_38 : decode cX6_back 38 = .ok (.aload_n 0, 1) := by decide +kernel
theorem dX6_back_39 : decode cX6_back 39 = .ok (.getfield 19, 3) := by decide +kernel
theorem dX6_back_42 : decode cX6_back 42 = .ok (.aload_n 2, 1) := by decide +kernel
theorem dX6_back_43 : decode cX6_back 43 = .ok (.getfield 225, 3) := by decide +kernel
theorem dX6_back_46 : decode cX6_back 46 = .ok (.invokevirtual 226, 3) := by decide +kernel
theorem dX6_back_49 : decode cX6_back 49 = .ok (.aload_n 0, 1) := by decide +kernel
theorem dX6_back_50 : decode cX6_back 50 = .ok (.getfield 10, 3) := by decide +kernel
theorem dX6_back_53 : decode cX6_back 53 = .ok (.getfield 102, 3) := by decide +kernel
theorem dX6_back_56 : decode cX6_back 56 = .ok (.ireturn, 1) := by decide +kernel
theorem dX6_sheet_0 : decode cX6_sheet 0 = .ok (.iload_n 1, 1) := by decide +kernel
theorem dX6_sheet_1 : decode cX6_sheet 1 = .ok (.invokestatic 229, 3) := by decide +kernel
theorem dX6_sheet_4 : decode cX6_sheet 4 = .ok (.ifCond .eq 17, 3) := by decide +kernel
theorem dX6_sheet_7 : decode cX6_sheet 7 = .ok (.iload_n 2, 1) := by decide +kernel
theorem dX6_sheet_8 : decode cX6_sheet 8 = .ok (.iconst 2, 1) := by decide +kernel
theorem dX6_sheet_9 : decode cX6_sheet 9 = .ok (.invokestatic 60, 3) := by decide +kernel
theorem dX6_sheet_12 : decode cX6_sheet 12 = .ok (.ifCond .eq 9, 3) := by decide +kernel
theorem dX6_sheet_15 : decode cX6_sheet 15 = .ok (.iload_n 3, 1) := by decide +kernel
theorem dX6_sheet_16 : decode cX6_sheet 16 = .ok (.bipush 40, 2) := by decide +kernel
theorem dX6_sheet_18 : decode cX6_sheet 18 = .ok (.if_icmp .le 5, 3) := by decide +kernel
theorem dX6_sheet_21 : decode cX6_sheet 21 = .ok (.iconst (-1), 1) := by decide +kernel
theorem dX6_sheet_22 : decode cX6_sheet 22 = .ok (.ireturn, 1) := by decide +kernel
theorem dX6_sheet_23 : decode cX6_sheet 23 = .ok (.iload_n 3, 1) := by decide +kernel
theorem dX6_sheet_24 : decode cX6_sheet 24 = .ok (.ifCond .ge 6, 3) := by decide +kernel
theorem dX6_sheet_27 : decode cX6_sheet 27 = .ok (.bipush (-14), 2) := by decide +kernel
theorem dX6_sheet_29 : decode cX6_sheet 29 = .ok (.ireturn, 1) := by decide +kernel
theorem dX6_sheet_30 : decode cX6_sheet 30 = .ok (.aload_n 0, 1) := by decide +kernel
theorem dX6_sheet_31 : decode cX6_sheet 31 = .ok (.getfield 54, 3) := by decide +kernel
theorem dX6_sheet_34 : decode cX6_sheet 34 = .ok (.iload_n 1, 1) := by decide +kernel
theorem dX6_sheet_35 : decode cX6_sheet 35 = .ok (.aaload, 1) := by decide +kernel
theorem dX6_sheet_36 : decode cX6_sheet 36 = .ok (.iload_n 2, 1) := by decide +kernel
theorem dX6_sheet_37 : decode cX6_sheet 37 = .ok (.iload_n 3, 1) := by decide +kernel
theorem dX6_sheet_38 : decode cX6_sheet 38 = .ok (.invokevirtual 232, 3) := by decide +kernel
theorem dX6_sheet_41 : decode cX6_sheet 41 = .ok (.iconst 1, 1) := by decide +kernel
theorem dX6_sheet_42 : decode cX6_sheet 42 = .ok (.ireturn, 1) := by decide +kernel
theorem dX6_lay_0 : decode cX6_lay 0 = .ok (.iload_n 1, 1) := by decide +kernel
theorem dX6_lay_1 : decode cX6_lay 1 = .ok (.invokestatic 229, 3) := by decide +kernel
theorem dX6_lay_4 : decode cX6_lay 4 = .ok (.ifCond .ne 5, 3) := by decide +kernel
theorem dX6_lay_7 : decode cX6_lay 7 = .ok (.iconst (-1), 1) := by decide +kernel
theorem dX6_lay_8 : decode cX6_lay 8 = .ok (.ireturn, 1) := by decide +kernel
theorem dX6_lay_9 : decode cX6_lay 9 = .ok (.aload_n 0, 1) := by decide +kernel
theorem dX6_lay_10 : decode cX6_lay 10 = .ok (.getfield 54, 3) := by decide +kernel
theorem dX6_lay_13 : decode cX6_lay 13 = .ok (.iload_n 1, 1) := by decide +kernel
theorem dX6_lay_14 : decode cX6_lay 14 = .ok (.aaload, 1) := by decide +kernel
theorem dX6_lay_15 : decode cX6_lay 15 = .ok (.iload_n 2, 1) := by decide +kernel
theorem dX6_lay_16 : decode cX6_lay 16 = .ok (.invokevirtual 236, 3) := by decide +kernel
theorem dX6_lay_19 : decode cX6_lay 19 = .ok (.istore 4, 2) := by decide +kernel
theorem dX6_lay_21 : decode cX6_lay 21 = .ok (.iload 4, 2) := by decide +kernel
theorem dX6_lay_23 : decode cX6_lay 23 = .ok (.ifCond .eq 9, 3) := by decide +kernel
theorem dX6_lay_26 : decode cX6_lay 26 = .ok (.bipush (-10), 2) := by decide +kernel
theorem dX6_lay_28 : decode cX6_lay 28 = .ok (.iload 4, 2) := by decide +kernel
theorem dX6_lay_30 : decode cX6_lay 30 = .ok (.isub, 1) := by decide +kernel
theorem dX6_lay_31 : decode cX6_lay 31 = .ok (.ireturn, 1) := by decide +kernel
theorem dX6_lay_32 : decode cX6_lay 32 = .ok (.aload_n 0, 1) := by decide +kernel
theorem dX6_lay_33 : decode cX6_lay 33 = .ok (.getfield 54, 3) := by decide +kernel
theorem dX6_lay_36 : decode cX6_lay 36 = .ok (.iload_n 1, 1) := by decide +kernel
theorem dX6_lay_37 : decode cX6_lay 37 = .ok (.aaload, 1) := by decide +kernel
theorem dX6_lay_38 : decode cX6_lay 38 = .ok (.getfield 239, 3) := by decide +kernel
theorem dX6_lay_41 : decode cX6_lay 41 = .ok (.iload_n 2, 1) := by decide +kernel
theorem dX6_lay_42 : decode cX6_lay 42 = .ok (.aload_n 0, 1) := by decide +kernel
theorem dX6_lay_43 : decode cX6_lay 43 = .ok (.getfield 54, 3) := by decide +kernel
theorem dX6_lay_46 : decode cX6_lay 46 = .ok (.iload_n 1, 1) := by decide +kernel
theorem dX6_lay_47 : decode cX6_lay 47 = .ok (.aaload, 1) := by decide +kernel
theorem dX6_lay_48 : decode cX6_lay 48 = .ok (.iload_n 3, 1) := by decide +kernel
theorem dX6_lay_49 : decode cX6_lay 49 = .ok (.invokevirtual 242, 3) := by decide +kernel
theorem dX6_lay_52 : decode cX6_lay 52 = .ok (.iastore, 1) := by decide +kernel
theorem dX6_lay_53 : decode cX6_lay 53 = .ok (.iconst 1, 1) := by decide +kernel
theorem dX6_lay_54 : decode cX6_lay 54 = .ok (.ireturn, 1) := by decide +kernel
theorem dX6_read_0 : decode cX6_read 0 = .ok (.iload_n 1, 1) := by decide +kernel
theorem dX6_read_1 : decode cX6_read 1 = .ok (.invokestatic 229, 3) := by decide +kernel
theorem dX6_read_4 : decode cX6_read 4 = .ok (.ifCond .eq 21, 3) := by decide +kernel
theorem dX6_read_7 : decode cX6_read 7 = .ok (.iload_n 2, 1) := by decide +kernel
theorem dX6_read_8 : decode cX6_read 8 = .ok (.iconst 2, 1) := by decide +kernel
theorem dX6_read_9 : decode cX6_read 9 = .ok (.invokestatic 60, 3) := by decide +kernel
theorem dX6_read_12 : decode cX6_read 12 = .ok (.ifCond .eq 13, 3) := by decide +kernel
theorem dX6_read_15 : decode cX6_read 15 = .ok (.iload 4, 2) := by decide +kernel
theorem dX6_read_17 : decode cX6_read 17 = .ok (.bipush 20, 2) := by decide +kernel
theorem dX6_read_19 : decode cX6_read 19 = .ok (.invokestatic 60, 3) := by decide +kernel
theorem dX6_read_22 : decode cX6_read 22 = .ok (.ifCond .ne 5, 3) := by decide +kernel
theorem dX6_read_25 : decode cX6_read 25 = .ok (.iconst (-1), 1) := by decide +kernel
theorem dX6_read_26 : decode cX6_read 26 = .ok (.ireturn, 1) := by decide +kernel
theorem dX6_read_27 : decode cX6_read 27 = .ok (.aload_n 0, 1) := by decide +kernel
theorem dX6_read_28 : decode cX6_read 28 = .ok (.getfield 54, 3) := by decide +kernel
theorem dX6_read_31 : decode cX6_read 31 = .ok (.iload_n 1, 1) := by decide +kernel
theorem dX6_read_32 : decode cX6_read 32 = .ok (.aaload, 1) := by decide +kernel
theorem dX6_read_33 : decode cX6_read 33 = .ok (.astore 5, 2) := by decide +kernel
theorem dX6_read_35 : decode cX6_read 35 = .ok (.iconst 0, 1) := by decide +kernel
theorem dX6_read_36 : decode cX6_read 36 = .ok (.istore 6, 2) := by decide +kernel
theorem dX6_read_38 : decode cX6_read 38 = .ok (.iconst 0, 1) := by decide +kernel
theorem dX6_read_39 : decode cX6_read 39 = .ok (.istore 7, 2) := by decide +kernel
theorem dX6_read_41 : decode cX6_read 41 = .ok (.iconst 0, 1) := by decide +kernel
theorem dX6_read_42 : decode cX6_read 42 = .ok (.istore 8, 2) := by decide +kernel
theorem dX6_read_44 : decode cX6_read 44 = .ok (.iload 8, 2) := by decide +kernel
theorem dX6_read_46 : decode cX6_read 46 = .ok (.iload 4, 2) := by decide +kernel
theorem dX6_read_48 : decode cX6_read 48 = .ok (.if_icmp .ge 76, 3) := by decide +kernel
theorem dX6_read_51 : decode cX6_read 51 = .ok (.iload 6, 2) := by decide +kernel
theorem dX6_read_53 : decode cX6_read 53 = .ok (.ifCond .ne 71, 3) := by decide +kernel
theorem dX6_read_56 : decode cX6_read 56 = .ok (.aload 5, 2) := by decide +kernel
theorem dX6_read_58 : decode cX6_read 58 = .ok (.iload_n 2, 1) := by decide +kernel
theorem dX6_read_59 : decode cX6_read 59 = .ok (.iload_n 3, 1) := by decide +kernel
theorem dX6_read_60 : decode cX6_read 60 = .ok (.iconst 2, 1) := by decide +kernel
theorem dX6_read_61 : decode cX6_read 61 = .ok (.iload 8, 2) := by decide +kernel
theorem dX6_read_63 : decode cX6_read 63 = .ok (.imul, 1) := by decide +kernel
theorem dX6_read_64 : decode cX6_read 64 = .ok (.iadd, 1) := by decide +kernel
theorem dX6_read_65 : decode cX6_read 65 = .ok (.invokevirtual 245, 3) := by decide +kernel
theorem dX6_read_68 : decode cX6_read 68 = .ok (.istore 6, 2) := by decide +kernel
theorem dX6_read_70 : decode cX6_read 70 = .ok (.iload 6, 2) := by decide +kernel
theorem dX6_read_72 : decode cX6_read 72 = .ok (.ifCond .ne 46, 3) := by decide +kernel
theorem dX6_read_75 : decode cX6_read 75 = .ok (.aload_n 0, 1) := by decide +kernel
theorem dX6_read_76 : decode cX6_read 76 = .ok (.aload 5, 2) := by decide +kernel
theorem dX6_read_78 : decode cX6_read 78 = .ok (.getfield 239, 3) := by decide +kernel
theorem dX6_read_81 : decode cX6_read 81 = .ok (.iload_n 3, 1) := by decide +kernel
theorem dX6_read_82 : decode cX6_read 82 = .ok (.iconst 2, 1) := by decide +kernel
theorem dX6_read_83 : decode cX6_read 83 = .ok (.iload 8, 2) := by decide +kernel
theorem dX6_read_85 : decode cX6_read 85 = .ok (.imul, 1) := by decide +kernel
theorem dX6_read_86 : decode cX6_read 86 = .ok (.iadd, 1) := by decide +kernel
theorem dX6_read_87 : decode cX6_read 87 = .ok (.iaload, 1) := by decide +kernel
theorem dX6_read_88 : decode cX6_read 88 = .ok (.iconst 1, 1) := by decide +kernel
theorem dX6_read_89 : decode cX6_read 89 = .ok (.aload 5, 2) := by decide +kernel
theorem dX6_read_91 : decode cX6_read 91 = .ok (.getfield 239, 3) := by decide +kernel
theorem dX6_read_94 : decode cX6_read 94 = .ok (.iload_n 3, 1) := by decide +kernel
theorem dX6_read_95 : decode cX6_read 95 = .ok (.iconst 2, 1) := by decide +kernel
theorem dX6_read_96 : decode cX6_read 96 = .ok (.iload 8, 2) := by decide +kernel
theorem dX6_read_98 : decode cX6_read 98 = .ok (.imul, 1) := by decide +kernel
theorem dX6_read_99 : decode cX6_read 99 = .ok (.iadd, 1) := by decide +kernel
theorem dX6_read_100 : decode cX6_read 100 = .ok (.iconst 1, 1) := by decide +kernel
theorem dX6_read_101 : decode cX6_read 101 = .ok (.iadd, 1) := by decide +kernel
theorem dX6_read_102 : decode cX6_read 102 = .ok (.iaload, 1) := by decide +kernel
theorem dX6_read_103 : decode cX6_read 103 = .ok (.invokevirtual 158, 3) := by decide +kernel
theorem dX6_read_106 : decode cX6_read 106 = .ok (.ifCond .eq 9, 3) := by decide +kernel
theorem dX6_read_109 : decode cX6_read 109 = .ok (.bipush (-20), 2) := by decide +kernel
theorem dX6_read_111 : decode cX6_read 111 = .ok (.iload 8, 2) := by decide +kernel
theorem dX6_read_113 : decode cX6_read 113 = .ok (.isub, 1) := by decide +kernel
theorem dX6_read_114 : decode cX6_read 114 = .ok (.ireturn, 1) := by decide +kernel
theorem dX6_read_115 : decode cX6_read 115 = .ok (.iinc 7 1, 3) := by decide +kernel
theorem dX6_read_118 : decode cX6_read 118 = .ok (.iinc 8 1, 3) := by decide +kernel
theorem dX6_read_121 : decode cX6_read 121 = .ok (.goto (-77), 3) := by decide +kernel
theorem dX6_read_124 : decode cX6_read 124 = .ok (.iconst 0, 1) := by decide +kernel
theorem dX6_read_125 : decode cX6_read 125 = .ok (.istore 8, 2) := by decide +kernel
theorem dX6_read_127 : decode cX6_read 127 = .ok (.iload 8, 2) := by decide +kernel
theorem dX6_read_129 : decode cX6_read 129 = .ok (.iload 7, 2) := by decide +kernel
theorem dX6_read_131 : decode cX6_read 131 = .ok (.if_icmp .ge 43, 3) := by decide +kernel
theorem dX6_read_134 : decode cX6_read 134 = .ok (.aload_n 0, 1) := by decide +kernel
theorem dX6_read_135 : decode cX6_read 135 = .ok (.getfield 10, 3) := by decide +kernel
theorem dX6_read_138 : decode cX6_read 138 = .ok (.aload 5, 2) := by decide +kernel
theorem dX6_read_140 : decode cX6_read 140 = .ok (.getfield 239, 3) := by decide +kernel
theorem dX6_read_143 : decode cX6_read 143 = .ok (.iload_n 3, 1) := by decide +kernel
theorem dX6_read_144 : decode cX6_read 144 = .ok (.iconst 2, 1) := by decide +kernel
theorem dX6_read_145 : decode cX6_read 145 = .ok (.iload 8, 2) := by decide +kernel
theorem dX6_read_147 : decode cX6_read 147 = .ok (.imul, 1) := by decide +kernel
theorem dX6_read_148 : decode cX6_read 148 = .ok (.iadd, 1) := by decide +kernel
theorem dX6_read_149 : decode cX6_read 149 = .ok (.iaload, 1) := by decide +kernel
theorem dX6_read_150 : decode cX6_read 150 = .ok (.iconst 1, 1) := by decide +kernel
theorem dX6_read_151 : decode cX6_read 151 = .ok (.aload 5, 2) := by decide +kernel
theorem dX6_read_153 : decode cX6_read 153 = .ok (.getfield 239, 3) := by decide +kernel
theorem dX6_read_156 : decode cX6_read 156 = .ok (.iload_n 3, 1) := by decide +kernel
theorem dX6_read_157 : decode cX6_read 157 = .ok (.iconst 2, 1) := by decide +kernel
theorem dX6_read_158 : decode cX6_read 158 = .ok (.iload 8, 2) := by decide +kernel
theorem dX6_read_160 : decode cX6_read 160 = .ok (.imul, 1) := by decide +kernel
theorem dX6_read_161 : decode cX6_read 161 = .ok (.iadd, 1) := by decide +kernel
theorem dX6_read_162 : decode cX6_read 162 = .ok (.iconst 1, 1) := by decide +kernel
theorem dX6_read_163 : decode cX6_read 163 = .ok (.iadd, 1) := by decide +kernel
theorem dX6_read_164 : decode cX6_read 164 = .ok (.iaload, 1) := by decide +kernel
theorem dX6_read_165 : decode cX6_read 165 = .ok (.invokevirtual 162, 3) := by decide +kernel
theorem dX6_read_168 : decode cX6_read 168 = .ok (.iinc 8 1, 3) := by decide +kernel
theorem dX6_read_171 : decode cX6_read 171 = .ok (.goto (-44), 3) := by decide +kernel
theorem dX6_read_174 : decode cX6_read 174 = .ok (.aload_n 0, 1) := by decide +kernel
theorem dX6_read_175 : decode cX6_read 175 = .ok (.iload 6, 2) := by decide +kernel
theorem dX6_read_177 : decode cX6_read 177 = .ok (.putfield 248, 3) := by decide +kernel
theorem dX6_read_180 : decode cX6_read 180 = .ok (.iload 7, 2) := by decide +kernel
theorem dX6_read_182 : decode cX6_read 182 = .ok (.ireturn, 1) := by decide +kernel
theorem dX6_torn_0 : decode cX6_torn 0 = .ok (.aload_n 0, 1) := by decide +kernel
theorem dX6_torn_1 : decode cX6_torn 1 = .ok (.getfield 248, 3) := by decide +kernel
theorem dX6_torn_4 : decode cX6_torn 4 = .ok (.ireturn, 1) := by decide +kernel
theorem dX6_count_0 : decode cX6_count 0 = .ok (.iload_n 1, 1) := by decide +kernel
theorem dX6_count_1 : decode cX6_count 1 = .ok (.tableswitch 118 0 5 #[39, 47, 52, 60, 87, 105], 39) := by decide +kernel
theorem dX6_count_40 : decode cX6_count 40 = .ok (.aload_n 0, 1) := by decide +kernel
theorem dX6_count_41 : decode cX6_count 41 = .ok (.getfield 19, 3) := by decide +kernel
theorem dX6_count_44 : decode cX6_count 44 = .ok (.getfield 89, 3) := by decide +kernel
theorem dX6_count_47 : decode cX6_count 47 = .ok (.ireturn, 1) := by decide +kernel
theorem dX6_count_48 : decode cX6_count 48 = .ok (.aload_n 0, 1) := by decide +kernel
theorem dX6_count_49 : decode cX6_count 49 = .ok (.invokevirtual 251, 3) := by decide +kernel
theorem dX6_count_52 : decode cX6_count 52 = .ok (.ireturn, 1) := by decide +kernel
theorem dX6_count_53 : decode cX6_count 53 = .ok (.aload_n 0, 1) := by decide +kernel
theorem dX6_count_54 : decode cX6_count 54 = .ok (.getfield 33, 3) := by decide +kernel
theorem dX6_count_57 : decode cX6_count 57 = .ok (.getfield 64, 3) := by decide +kernel
theorem dX6_count_60 : decode cX6_count 60 = .ok (.ireturn, 1) := by decide +kernel
theorem dX6_count_61 : decode cX6_count 61 = .ok (.aload_n 0, 1) := by decide +kernel
theorem dX6_count_62 : decode cX6_count 62 = .ok (.getfield 54, 3) := by decide +kernel
theorem dX6_count_65 : decode cX6_count 65 = .ok (.iconst 0, 1) := by decide +kernel
theorem dX6_count_66 : decode cX6_count 66 = .ok (.aaload, 1) := by decide +kernel
theorem dX6_count_67 : decode cX6_count 67 = .ok (.invokevirtual 254, 3) := by decide +kernel
theorem dX6_count_70 : decode cX6_count 70 = .ok (.ifCond .eq 8, 3) := by decide +kernel
theorem dX6_count_73 : decode cX6_count 73 = .ok (.bipush (-4), 2) := by decide +kernel
theorem dX6_count_75 : decode cX6_count 75 = .ok (.goto 12, 3) := by decide +kernel
theorem dX6_count_78 : decode cX6_count 78 = .ok (.aload_n 0, 1) := by decide +kernel
theorem dX6_count_79 : decode cX6_count 79 = .ok (.getfield 54, 3) := by decide +kernel
theorem dX6_count_82 : decode cX6_count 82 = .ok (.iconst 0, 1) := by decide +kernel
theorem dX6_count_83 : decode cX6_count 83 = .ok (.aaload, 1) := by decide +kernel
theorem dX6_count_84 : decode cX6_count 84 = .ok (.getfield 257, 3) := by decide +kernel
theorem dX6_count_87 : decode cX6_count 87 = .ok (.ireturn, 1) := by decide +kernel
theorem dX6_count_88 : decode cX6_count 88 = .ok (.aload_n 0, 1) := by decide +kernel
theorem dX6_count_89 : decode cX6_count 89 = .ok (.getfield 10, 3) := by decide +kernel
theorem dX6_count_92 : decode cX6_count 92 = .ok (.getfield 176, 3) := by decide +kernel
theorem dX6_count_95 : decode cX6_count 95 = .ok (.aload_n 0, 1) := by decide +kernel
theorem dX6_count_96 : decode cX6_count 96 = .ok (.getfield 10, 3) := by decide +kernel
theorem dX6_count_99 : decode cX6_count 99 = .ok (.getfield 99, 3) := by decide +kernel
theorem dX6_count_102 : decode cX6_count 102 = .ok (.invokestatic 260, 3) := by decide +kernel
theorem dX6_count_105 : decode cX6_count 105 = .ok (.ireturn, 1) := by decide +kernel
theorem dX6_count_106 : decode cX6_count 106 = .ok (.aload_n 0, 1) := by decide +kernel
theorem dX6_count_107 : decode cX6_count 107 = .ok (.getfield 10, 3) := by decide +kernel
theorem dX6_count_110 : decode cX6_count 110 = .ok (.getfield 146, 3) := by decide +kernel
theorem dX6_count_113 : decode cX6_count 113 = .ok (.bipush 12, 2) := by decide +kernel
theorem dX6_count_115 : decode cX6_count 115 = .ok (.invokestatic 260, 3) := by decide +kernel
theorem dX6_count_118 : decode cX6_count 118 = .ok (.ireturn, 1) := by decide +kernel
theorem dX6_count_119 : decode cX6_count 119 = .ok (.iconst (-1), 1) := by decide +kernel
theorem dX6_count_120 : decode cX6_count 120 = .ok (.ireturn, 1) := by decide +kernel
theorem dX6_isWithin_0 : decode cX6_isWithin 0 = .ok (.iload_n 0, 1) := by decide +kernel
theorem dX6_isWithin_1 : decode cX6_isWithin 1 = .ok (.ifCond .lt 12, 3) := by decide +kernel
theorem dX6_isWithin_4 : decode cX6_isWithin 4 = .ok (.iload_n 0, 1) := by decide +kernel
theorem dX6_isWithin_5 : decode cX6_isWithin 5 = .ok (.iload_n 1, 1) := by decide +kernel
theorem dX6_isWithin_6 : decode cX6_isWithin 6 = .ok (.if_icmp .gt 7, 3) := by decide +kernel
theorem dX6_isWithin_9 : decode cX6_isWithin 9 = .ok (.iconst 1, 1) := by decide +kernel
theorem dX6_isWithin_10 : decode cX6_isWithin 10 = .ok (.goto 4, 3) := by decide +kernel
theorem dX6_isWithin_13 : decode cX6_isWithin 13 = .ok (.iconst 0, 1) := by decide +kernel
theorem dX6_isWithin_14 : decode cX6_isWithin 14 = .ok (.ireturn, 1) := by decide +kernel
theorem dX6_isDoor_0 : decode cX6_isDoor 0 = .ok (.iload_n 0, 1) := by decide +kernel
theorem dX6_isDoor_1 : decode cX6_isDoor 1 = .ok (.bipush 11, 2) := by decide +kernel
theorem dX6_isDoor_3 : decode cX6_isDoor 3 = .ok (.invokestatic 60, 3) := by decide +kernel
theorem dX6_isDoor_6 : decode cX6_isDoor 6 = .ok (.ireturn, 1) := by decide +kernel
theorem dX6_isSheet_0 : decode cX6_isSheet 0 = .ok (.iload_n 0, 1) := by decide +kernel
theorem dX6_isSheet_1 : decode cX6_isSheet 1 = .ok (.iconst 3, 1) := by decide +kernel
theorem dX6_isSheet_2 : decode cX6_isSheet 2 = .ok (.invokestatic 60, 3) := by decide +kernel
theorem dX6_isSheet_5 : decode cX6_isSheet 5 = .ok (.ireturn, 1) := by decide +kernel
theorem dX6_isGlove_0 : decode cX6_isGlove 0 = .ok (.iload_n 1, 1) := by decide +kernel
theorem dX6_isGlove_1 : decode cX6_isGlove 1 = .ok (.aload_n 0, 1) := by decide +kernel
theorem dX6_isGlove_2 : decode cX6_isGlove 2 = .ok (.getfield 10, 3) := by decide +kernel
theorem dX6_isGlove_5 : decode cX6_isGlove 5 = .ok (.getfield 99, 3) := by decide +kernel
theorem dX6_isGlove_8 : decode cX6_isGlove 8 = .ok (.iconst 1, 1) := by decide +kernel
theorem dX6_isGlove_9 : decode cX6_isGlove 9 = .ok (.isub, 1) := by decide +kernel
theorem dX6_isGlove_10 : decode cX6_isGlove 10 = .ok (.invokestatic 60, 3) := by decide +kernel
theorem dX6_isGlove_13 : decode cX6_isGlove 13 = .ok (.ireturn, 1) := by decide +kernel
theorem dX6_isCall_0 : decode cX6_isCall 0 = .ok (.iload_n 1, 1) := by decide +kernel
theorem dX6_isCall_1 : decode cX6_isCall 1 = .ok (.aload_n 0, 1) := by decide +kernel
theorem dX6_isCall_2 : decode cX6_isCall 2 = .ok (.getfield 10, 3) := by decide +kernel
theorem dX6_isCall_5 : decode cX6_isCall 5 = .ok (.getfield 118, 3) := by decide +kernel
theorem dX6_isCall_8 : decode cX6_isCall 8 = .ok (.iconst 1, 1) := by decide +kernel
theorem dX6_isCall_9 : decode cX6_isCall 9 = .ok (.isub, 1) := by decide +kernel
theorem dX6_isCall_10 : decode cX6_isCall 10 = .ok (.invokestatic 60, 3) := by decide +kernel
theorem dX6_isCall_13 : decode cX6_isCall 13 = .ok (.ireturn, 1) := by decide +kernel
theorem dX6_greatestOf_0 : decode cX6_greatestOf 0 = .ok (.iload_n 0, 1) := by decide +kernel
theorem dX6_greatestOf_1 : decode cX6_greatestOf 1 = .ok (.tableswitch 35 0 2 #[27, 29, 32], 27) := by decide +kernel
theorem dX6_greatestOf_28 : decode cX6_greatestOf 28 = .ok (.iconst 3, 1) := by decide +kernel
theorem dX6_greatestOf_29 : decode cX6_greatestOf 29 = .ok (.ireturn, 1) := by decide +kernel
theorem dX6_greatestOf_30 : decode cX6_greatestOf 30 = .ok (.bipush 11, 2) := by decide +kernel
theorem dX6_greatestOf_32 : decode cX6_greatestOf 32 = .ok (.ireturn, 1) := by decide +kernel
theorem dX6_greatestOf_33 : decode cX6_greatestOf 33 = .ok (.bipush 20, 2) := by decide +kernel
theorem dX6_greatestOf_35 : decode cX6_greatestOf 35 = .ok (.ireturn, 1) := by decide +kernel
theorem dX6_greatestOf_36 : decode cX6_greatestOf 36 = .ok (.iconst (-1), 1) := by decide +kernel
theorem dX6_greatestOf_37 : decode cX6_greatestOf 37 = .ok (.ireturn, 1) := by decide +kernel
theorem dX6_refusalOf_0 : decode cX6_refusalOf 0 = .ok (.aload_n 0, 1) := by decide +kernel
theorem dX6_refusalOf_1 : decode cX6_refusalOf 1 = .ok (.iload_n 1, 1) := by decide +kernel
theorem dX6_refusalOf_2 : decode cX6_refusalOf 2 = .ok (.invokevirtual 121, 3) := by decide +kernel
theorem dX6_refusalOf_5 : decode cX6_refusalOf 5 = .ok (.ifCond .eq 14, 3) := by decide +kernel
theorem dX6_refusalOf_8 : decode cX6_refusalOf 8 = .ok (.iload_n 3, 1) := by decide +kernel
theorem dX6_refusalOf_9 : decode cX6_refusalOf 9 = .ok (.iload_n 2, 1) := by decide +kernel
theorem dX6_refusalOf_10 : decode cX6_refusalOf 10 = .ok (.invokestatic 264, 3) := by decide +kernel
theorem dX6_refusalOf_13 : decode cX6_refusalOf 13 = .ok (.invokestatic 60, 3) := by decide +kernel
theorem dX6_refusalOf_16 : decode cX6_refusalOf 16 = .ok (.ifCond .ne 5, 3) := by decide +kernel
theorem dX6_refusalOf_19 : decode cX6_refusalOf 19 = .ok (.iconst (-1), 1) := by decide +kernel
theorem dX6_refusalOf_20 : decode cX6_refusalOf 20 = .ok (.ireturn, 1) := by decide +kernel
theorem dX6_refusalOf_21 : decode cX6_refusalOf 21 = .ok (.iload_n 2, 1) := by decide +kernel
theorem dX6_refusalOf_22 : decode cX6_refusalOf 22 = .ok (.iconst 1, 1) := by decide +kernel
theorem dX6_refusalOf_23 : decode cX6_refusalOf 23 = .ok (.if_icmp .ne 19, 3) := by decide +kernel
theorem dX6_refusalOf_26 : decode cX6_refusalOf 26 = .ok (.aload_n 0, 1) := by decide +kernel
theorem dX6_refusalOf_27 : decode cX6_refusalOf 27 = .ok (.getfield 10, 3) := by decide +kernel
theorem dX6_refusalOf_30 : decode cX6_refusalOf 30 = .ok (.iload_n 1, 1) := by decide +kernel
theorem dX6_refusalOf_31 : decode cX6_refusalOf 31 = .ok (.invokevirtual 129, 3) := by decide +kernel
theorem dX6_refusalOf_34 : decode cX6_refusalOf 34 = .ok (.ifCond .eq 8, 3) := by decide +kernel
theorem dX6_refusalOf_37 : decode cX6_refusalOf 37 = .ok (.bipush (-2), 2) := by decide +kernel
theorem dX6_refusalOf_39 : decode cX6_refusalOf 39 = .ok (.goto 4, 3) := by decide +kernel
theorem dX6_refusalOf_42 : decode cX6_refusalOf 42 = .ok (.iconst 0, 1) := by decide +kernel
theorem dX6_refusalOf_43 : decode cX6_refusalOf 43 = .ok (.ireturn, 1) := by decide +kernel
theorem dX6_farOf_0 : decode cX6_farOf 0 = .ok (.iload_n 0, 1) := by decide +kernel
theorem dX6_farOf_1 : decode cX6_farOf 1 = .ok (.iload_n 1, 1) := by decide +kernel
theorem dX6_farOf_2 : decode cX6_farOf 2 = .ok (.isub, 1) := by decide +kernel
theorem dX6_farOf_3 : decode cX6_farOf 3 = .ok (.invokestatic 267, 3) := by decide +kernel
theorem dX6_farOf_6 : decode cX6_farOf 6 = .ok (.istore_n 2, 1) := by decide +kernel
theorem dX6_farOf_7 : decode cX6_farOf 7 = .ok (.iload_n 2, 1) := by decide +kernel
theorem dX6_farOf_8 : decode cX6_farOf 8 = .ok (.bipush 12, 2) := by decide +kernel
theorem dX6_farOf_10 : decode cX6_farOf 10 = .ok (.iload_n 2, 1) := by decide +kernel
theorem dX6_farOf_11 : decode cX6_farOf 11 = .ok (.isub, 1) := by decide +kernel
theorem dX6_farOf_12 : decode cX6_farOf 12 = .ok (.invokestatic 272, 3) := by decide +kernel
theorem dX6_farOf_15 : decode cX6_farOf 15 = .ok (.ireturn, 1) := by decide +kernel
theorem dX6_sumOf_0 : decode cX6_sumOf 0 = .ok (.iconst 0, 1) := by decide +kernel
theorem dX6_sumOf_1 : decode cX6_sumOf 1 = .ok (.istore_n 2, 1) := by decide +kernel
theorem dX6_sumOf_2 : decode cX6_sumOf 2 = .ok (.iconst 0, 1) := by decide +kernel
theorem dX6_sumOf_3 : decode cX6_sumOf 3 = .ok (.istore_n 3, 1) := by decide +kernel
theorem dX6_sumOf_4 : decode cX6_sumOf 4 = .ok (.iload_n 3, 1) := by decide +kernel
theorem dX6_sumOf_5 : decode cX6_sumOf 5 = .ok (.iload_n 1, 1) := by decide +kernel
theorem dX6_sumOf_6 : decode cX6_sumOf 6 = .ok (.if_icmp .ge 21, 3) := by decide +kernel
theorem dX6_sumOf_9 : decode cX6_sumOf 9 = .ok (.iload_n 3, 1) := by decide +kernel
theorem dX6_sumOf_10 : decode cX6_sumOf 10 = .ok (.aload_n 0, 1) := by decide +kernel
theorem dX6_sumOf_11 : decode cX6_sumOf 11 = .ok (.arraylength, 1) := by decide +kernel
theorem dX6_sumOf_12 : decode cX6_sumOf 12 = .ok (.if_icmp .ge 15, 3) := by decide +kernel
theorem dX6_sumOf_15 : decode cX6_sumOf 15 = .ok (.iload_n 2, 1) := by decide +kernel
theorem dX6_sumOf_16 : decode cX6_sumOf 16 = .ok (.aload_n 0, 1) := by decide +kernel
theorem dX6_sumOf_17 : decode cX6_sumOf 17 = .ok (.iload_n 3, 1) := by decide +kernel
theorem dX6_sumOf_18 : decode cX6_sumOf 18 = .ok (.iaload, 1) := by decide +kernel
theorem dX6_sumOf_19 : decode cX6_sumOf 19 = .ok (.iadd, 1) := by decide +kernel
theorem dX6_sumOf_20 : decode cX6_sumOf 20 = .ok (.istore_n 2, 1) := by decide +kernel
theorem dX6_sumOf_21 : decode cX6_sumOf 21 = .ok (.iinc 3 1, 3) := by decide +kernel
theorem dX6_sumOf_24 : decode cX6_sumOf 24 = .ok (.goto (-20), 3) := by decide +kernel
theorem dX6_sumOf_27 : decode cX6_sumOf 27 = .ok (.iload_n 2, 1) := by decide +kernel
theorem dX6_sumOf_28 : decode cX6_sumOf 28 = .ok (.ireturn, 1) := by decide +kernel
theorem dX6_imagesKept_0 : decode cX6_imagesKept 0 = .ok (.iconst 0, 1) := by decide +kernel
theorem dX6_imagesKept_1 : decode cX6_imagesKept 1 = .ok (.istore_n 1, 1) := by decide +kernel
theorem dX6_imagesKept_2 : decode cX6_imagesKept 2 = .ok (.iconst 0, 1) := by decide +kernel
theorem dX6_imagesKept_3 : decode cX6_imagesKept 3 = .ok (.istore_n 2, 1) := by decide +kernel
theorem dX6_imagesKept_4 : decode cX6_imagesKept 4 = .ok (.iload_n 2, 1) := by decide +kernel
theorem dX6_imagesKept_5 : decode cX6_imagesKept 5 = .ok (.aload_n 0, 1) := by decide +kernel
theorem dX6_imagesKept_6 : decode cX6_imagesKept 6 = .ok (.getfield 48, 3) := by decide +kernel
theorem dX6_imagesKept_9 : decode cX6_imagesKept 9 = .ok (.arraylength, 1) := by decide +kernel
theorem dX6_imagesKept_10 : decode cX6_imagesKept 10 = .ok (.if_icmp .ge 24, 3) := by decide +kernel
theorem dX6_imagesKept_13 : decode cX6_imagesKept 13 = .ok (.aload_n 0, 1) := by decide +kernel
theorem dX6_imagesKept_14 : decode cX6_imagesKept 14 = .ok (.getfield 48, 3) := by decide +kernel
theorem dX6_imagesKept_17 : decode cX6_imagesKept 17 = .ok (.iload_n 2, 1) := by decide +kernel
theorem dX6_imagesKept_18 : decode cX6_imagesKept 18 = .ok (.aaload, 1) := by decide +kernel
theorem dX6_imagesKept_19 : decode cX6_imagesKept 19 = .ok (.getfield 92, 3) := by decide +kernel
theorem dX6_imagesKept_22 : decode cX6_imagesKept 22 = .ok (.ifCond .eq 6, 3) := by decide +kernel
theorem dX6_imagesKept_25 : decode cX6_imagesKept 25 = .ok (.iinc 1 1, 3) := by decide +kernel
theorem dX6_imagesKept_28 : decode cX6_imagesKept 28 = .ok (.iinc 2 1, 3) := by decide +kernel
theorem dX6_imagesKept_31 : decode cX6_imagesKept 31 = .ok (.goto (-27), 3) := by decide +kernel
theorem dX6_imagesKept_34 : decode cX6_imagesKept 34 = .ok (.iload_n 1, 1) := by decide +kernel
theorem dX6_imagesKept_35 : decode cX6_imagesKept 35 = .ok (.ireturn, 1) := by decide +kernel
theorem dX6_firstPairing_0 : decode cX6_firstPairing 0 = .ok (.iconst 0, 1) := by decide +kernel
theorem dX6_firstPairing_1 : decode cX6_firstPairing 1 = .ok (.istore_n 3, 1) := by decide +kernel
theorem dX6_firstPairing_2 : decode cX6_firstPairing 2 = .ok (.iload_n 3, 1) := by decide +kernel
theorem dX6_firstPairing_3 : decode cX6_firstPairing 3 = .ok (.iload_n 2, 1) := by decide +kernel
theorem dX6_firstPairing_4 : decode cX6_firstPairing 4 = .ok (.if_icmp .gt 31, 3) := by decide +kernel
theorem dX6_firstPairing_7 : decode cX6_firstPairing 7 = .ok (.aload_n 0, 1) := by decide +kernel
theorem dX6_firstPairing_8 : decode cX6_firstPairing 8 = .ok (.getfield 23, 3) := by decide +kernel
theorem dX6_firstPairing_11 : decode cX6_firstPairing 11 = .ok (.getfield 111, 3) := by decide +kernel
theorem dX6_firstPairing_14 : decode cX6_firstPairing 14 = .ok (.iload_n 1, 1) := by decide +kernel
theorem dX6_firstPairing_15 : decode cX6_firstPairing 15 = .ok (.iand, 1) := by decide +kernel
theorem dX6_firstPairing_16 : decode cX6_firstPairing 16 = .ok (.ifCond .eq 5, 3) := by decide +kernel
theorem dX6_firstPairing_19 : decode cX6_firstPairing 19 = .ok (.iload_n 3, 1) := by decide +kernel
theorem dX6_firstPairing_20 : decode cX6_firstPairing 20 = .ok (.ireturn, 1) := by decide +kernel
theorem dX6_firstPairing_21 : decode cX6_firstPairing 21 = .ok (.aload_n 0, 1) := by decide +kernel
theorem dX6_firstPairing_22 : decode cX6_firstPairing 22 = .ok (.getfield 23, 3) := by decide +kernel
theorem dX6_firstPairing_25 : decode cX6_firstPairing 25 = .ok (.iconst 1, 1) := by decide +kernel
theorem dX6_firstPairing_26 : decode cX6_firstPairing 26 = .ok (.invokevirtual 170, 3) := by decide +kernel
theorem dX6_firstPairing_29 : decode cX6_firstPairing 29 = .ok (.iinc 3 1, 3) := by decide +kernel
theorem dX6_firstPairing_32 : decode cX6_firstPairing 32 = .ok (.goto (-30), 3) := by decide +kernel
theorem dX6_firstPairing_35 : decode cX6_firstPairing 35 = .ok (.bipush (-4), 2) := by decide +kernel
theorem dX6_firstPairing_37 : decode cX6_firstPairing 37 = .ok (.ireturn, 1) := by decide +kernel
theorem dX6_nameBehind_0 : decode cX6_nameBehind 0 = .ok (.aload_n 0, 1) := by decide +kernel
theorem dX6_nameBehind_1 : decode cX6_nameBehind 1 = .ok (.getfield 23, 3) := by decide +kernel
theorem dX6_nameBehind_4 : decode cX6_nameBehind 4 = .ok (.aload_n 0, 1) := by decide +kernel
theorem dX6_nameBehind_5 : decode cX6_nameBehind 5 = .ok (.getfield 10, 3) := by decide +kernel
theorem dX6_nameBehind_8 : decode cX6_nameBehind 8 = .ok (.invokevirtual 85, 3) := by decide +kernel
theorem dX6_nameBehind_11 : decode cX6_nameBehind 11 = .ok (.aload_n 0, 1) := by decide +kernel
theorem dX6_nameBehind_12 : decode cX6_nameBehind 12 = .ok (.getfield 23, 3) := by decide +kernel
theorem dX6_nameBehind_15 : decode cX6_nameBehind 15 = .ok (.iload_n 1, 1) := by decide +kernel
theorem dX6_nameBehind_16 : decode cX6_nameBehind 16 = .ok (.invokevirtual 170, 3) := by decide +kernel
theorem dX6_nameBehind_19 : decode cX6_nameBehind 19 = .ok (.aload_n 0, 1) := by decide +kernel
theorem dX6_nameBehind_20 : decode cX6_nameBehind 20 = .ok (.getfield 23, 3) := by decide +kernel
theorem dX6_nameBehind_23 : decode cX6_nameBehind 23 = .ok (.getfield 108, 3) := by decide +kernel
theorem dX6_nameBehind_26 : decode cX6_nameBehind 26 = .ok (.ireturn, 1) := by decide +kernel
theorem dX6_nameWithSwap_0 : decode cX6_nameWithSwap 0 = .ok (.aload_n 0, 1) := by decide +kernel
theorem dX6_nameWithSwap_1 : decode cX6_nameWithSwap 1 = .ok (.getfield 23, 3) := by decide +kernel
theorem dX6_nameWithSwap_4 : decode cX6_nameWithSwap 4 = .ok (.aload_n 0, 1) := by decide +kernel
theorem dX6_nameWithSwap_5 : decode cX6_nameWithSwap 5 = .ok (.getfield 10, 3) := by decide +kernel
theorem dX6_nameWithSwap_8 : decode cX6_nameWithSwap 8 = .ok (.invokevirtual 85, 3) := by decide +kernel
theorem dX6_nameWithSwap_11 : decode cX6_nameWithSwap 11 = .ok (.aload_n 0, 1) := by decide +kernel
theorem dX6_nameWithSwap_12 : decode cX6_nameWithSwap 12 = .ok (.getfield 23, 3) := by decide +kernel
theorem dX6_nameWithSwap_15 : decode cX6_nameWithSwap 15 = .ok (.getfield 155, 3) := by decide +kernel
theorem dX6_nameWithSwap_18 : decode cX6_nameWithSwap 18 = .ok (.iload_n 1, 1) := by decide +kernel
theorem dX6_nameWithSwap_19 : decode cX6_nameWithSwap 19 = .ok (.aload_n 0, 1) := by decide +kernel
theorem dX6_nameWithSwap_20 : decode cX6_nameWithSwap 20 = .ok (.getfield 10, 3) := by decide +kernel
theorem dX6_nameWithSwap_23 : decode cX6_nameWithSwap 23 = .ok (.getfield 155, 3) := by decide +kernel
theorem dX6_nameWithSwap_26 : decode cX6_nameWithSwap 26 = .ok (.iload_n 2, 1) := by decide +kernel
theorem dX6_nameWithSwap_27 : decode cX6_nameWithSwap 27 = .ok (.iaload, 1) := by decide +kernel
theorem dX6_nameWithSwap_28 : decode cX6_nameWithSwap 28 = .ok (.iastore, 1) := by decide +kernel
theorem dX6_nameWithSwap_29 : decode cX6_nameWithSwap 29 = .ok (.aload_n 0, 1) := by decide +kernel
theorem dX6_nameWithSwap_30 : decode cX6_nameWithSwap 30 = .ok (.getfield 23, 3) := by decide +kernel
theorem dX6_nameWithSwap_33 : decode cX6_nameWithSwap 33 = .ok (.getfield 155, 3) := by decide +kernel
theorem dX6_nameWithSwap_36 : decode cX6_nameWithSwap 36 = .ok (.iload_n 2, 1) := by decide +kernel
theorem dX6_nameWithSwap_37 : decode cX6_nameWithSwap 37 = .ok (.aload_n 0, 1) := by decide +kernel
theorem dX6_nameWithSwap_38 : decode cX6_nameWithSwap 38 = .ok (.getfield 10, 3) := by decide +kernel
theorem dX6_nameWithSwap_41 : decode cX6_nameWithSwap 41 = .ok (.getfield 155, 3) := by decide +kernel
theorem dX6_nameWithSwap_44 : decode cX6_nameWithSwap 44 = .ok (.iload_n 1, 1) := by decide +kernel
theorem dX6_nameWithSwap_45 : decode cX6_nameWithSwap 45 = .ok (.iaload, 1) := by decide +kernel
theorem dX6_nameWithSwap_46 : decode cX6_nameWithSwap 46 = .ok (.iastore, 1) := by decide +kernel
theorem dX6_nameWithSwap_47 : decode cX6_nameWithSwap 47 = .ok (.aload_n 0, 1) := by decide +kernel
theorem dX6_nameWithSwap_48 : decode cX6_nameWithSwap 48 = .ok (.getfield 23, 3) := by decide +kernel
theorem dX6_nameWithSwap_51 : decode cX6_nameWithSwap 51 = .ok (.iload_n 3, 1) := by decide +kernel
theorem dX6_nameWithSwap_52 : decode cX6_nameWithSwap 52 = .ok (.invokevirtual 170, 3) := by decide +kernel
theorem dX6_nameWithSwap_55 : decode cX6_nameWithSwap 55 = .ok (.aload_n 0, 1) := by decide +kernel
theorem dX6_nameWithSwap_56 : decode cX6_nameWithSwap 56 = .ok (.getfield 23, 3) := by decide +kernel
theorem dX6_nameWithSwap_59 : decode cX6_nameWithSwap 59 = .ok (.getfield 108, 3) := by decide +kernel
theorem dX6_nameWithSwap_62 : decode cX6_nameWithSwap 62 = .ok (.ireturn, 1) := by decide +kernel
theorem dX6_bestDoorOfCall_0 : decode cX6_bestDoorOfCall 0 = .ok (.iconst (-1), 1) := by decide +kernel
theorem dX6_bestDoorOfCall_1 : decode cX6_bestDoorOfCall 1 = .ok (.istore 4, 2) := by decide +kernel
theorem dX6_bestDoorOfCall_3 : decode cX6_bestDoorOfCall 3 = .ok (.iconst 0, 1) := by decide +kernel
theorem dX6_bestDoorOfCall_4 : decode cX6_bestDoorOfCall 4 = .ok (.istore 5, 2) := by decide +kernel
theorem dX6_bestDoorOfCall_6 : decode cX6_bestDoorOfCall 6 = .ok (.iconst 0, 1) := by decide +kernel
theorem dX6_bestDoorOfCall_7 : decode cX6_bestDoorOfCall 7 = .ok (.istore 6, 2) := by decide +kernel
theorem dX6_bestDoorOfCall_9 : decode cX6_bestDoorOfCall 9 = .ok (.iload 6, 2) := by decide +kernel
theorem dX6_bestDoorOfCall_11 : decode cX6_bestDoorOfCall 11 = .ok (.bipush 12, 2) := by decide +kernel
theorem dX6_bestDoorOfCall_13 : decode cX6_bestDoorOfCall 13 = .ok (.if_icmp .ge 83, 3) := by decide +kernel
theorem dX6_bestDoorOfCall_16 : decode cX6_bestDoorOfCall 16 = .ok (.aload_n 0, 1) := by decide +kernel
theorem dX6_bestDoorOfCall_17 : decode cX6_bestDoorOfCall 17 = .ok (.getfield 23, 3) := by decide +kernel
theorem dX6_bestDoorOfCall_20 : decode cX6_bestDoorOfCall 20 = .ok (.aload_n 0, 1) := by decide +kernel
theorem dX6_bestDoorOfCall_21 : decode cX6_bestDoorOfCall 21 = .ok (.getfield 10, 3) := by decide +kernel
theorem dX6_bestDoorOfCall_24 : decode cX6_bestDoorOfCall 24 = .ok (.invokevirtual 85, 3) := by decide +kernel
theorem dX6_bestDoorOfCall_27 : decode cX6_bestDoorOfCall 27 = .ok (.aload_n 0, 1) := by decide +kernel
theorem dX6_bestDoorOfCall_28 : decode cX6_bestDoorOfCall 28 = .ok (.getfield 23, 3) := by decide +kernel
theorem dX6_bestDoorOfCall_31 : decode cX6_bestDoorOfCall 31 = .ok (.getfield 155, 3) := by decide +kernel
theorem dX6_bestDoorOfCall_34 : decode cX6_bestDoorOfCall 34 = .ok (.iload_n 1, 1) := by decide +kernel
theorem dX6_bestDoorOfCall_35 : decode cX6_bestDoorOfCall 35 = .ok (.iload 6, 2) := by decide +kernel
theorem dX6_bestDoorOfCall_37 : decode cX6_bestDoorOfCall 37 = .ok (.iastore, 1) := by decide +kernel
theorem dX6_bestDoorOfCall_38 : decode cX6_bestDoorOfCall 38 = .ok (.aload_n 0, 1) := by decide +kernel
theorem dX6_bestDoorOfCall_39 : decode cX6_bestDoorOfCall 39 = .ok (.getfield 23, 3) := by decide +kernel
theorem dX6_bestDoorOfCall_42 : decode cX6_bestDoorOfCall 42 = .ok (.aload_n 0, 1) := by decide +kernel
theorem dX6_bestDoorOfCall_43 : decode cX6_bestDoorOfCall 43 = .ok (.getfield 10, 3) := by decide +kernel
theorem dX6_bestDoorOfCall_46 : decode cX6_bestDoorOfCall 46 = .ok (.getfield 118, 3) := by decide +kernel
theorem dX6_bestDoorOfCall_49 : decode cX6_bestDoorOfCall 49 = .ok (.iload_n 1, 1) := by decide +kernel
theorem dX6_bestDoorOfCall_50 : decode cX6_bestDoorOfCall 50 = .ok (.iconst 1, 1) := by decide +kernel
theorem dX6_bestDoorOfCall_51 : decode cX6_bestDoorOfCall 51 = .ok (.iadd, 1) := by decide +kernel
theorem dX6_bestDoorOfCall_52 : decode cX6_bestDoorOfCall 52 = .ok (.invokestatic 275, 3) := by decide +kernel
theorem dX6_bestDoorOfCall_55 : decode cX6_bestDoorOfCall 55 = .ok (.putfield 118, 3) := by decide +kernel
theorem dX6_bestDoorOfCall_58 : decode cX6_bestDoorOfCall 58 = .ok (.aload_n 0, 1) := by decide +kernel
theorem dX6_bestDoorOfCall_59 : decode cX6_bestDoorOfCall 59 = .ok (.getfield 23, 3) := by decide +kernel
theorem dX6_bestDoorOfCall_62 : decode cX6_bestDoorOfCall 62 = .ok (.iload_n 2, 1) := by decide +kernel
theorem dX6_bestDoorOfCall_63 : decode cX6_bestDoorOfCall 63 = .ok (.invokevirtual 170, 3) := by decide +kernel
theorem dX6_bestDoorOfCall_66 : decode cX6_bestDoorOfCall 66 = .ok (.aload_n 0, 1) := by decide +kernel
theorem dX6_bestDoorOfCall_67 : decode cX6_bestDoorOfCall 67 = .ok (.getfield 23, 3) := by decide +kernel
theorem dX6_bestDoorOfCall_70 : decode cX6_bestDoorOfCall 70 = .ok (.invokevirtual 219, 3) := by decide +kernel
theorem dX6_bestDoorOfCall_73 : decode cX6_bestDoorOfCall 73 = .ok (.istore 7, 2) := by decide +kernel
theorem dX6_bestDoorOfCall_75 : decode cX6_bestDoorOfCall 75 = .ok (.iload 7, 2) := by decide +kernel
theorem dX6_bestDoorOfCall_77 : decode cX6_bestDoorOfCall 77 = .ok (.iload 4, 2) := by decide +kernel
theorem dX6_bestDoorOfCall_79 : decode cX6_bestDoorOfCall 79 = .ok (.if_icmp .le 11, 3) := by decide +kernel
theorem dX6_bestDoorOfCall_82 : decode cX6_bestDoorOfCall 82 = .ok (.iload 7, 2) := by decide +kernel
theorem dX6_bestDoorOfCall_84 : decode cX6_bestDoorOfCall 84 = .ok (.istore 4, 2) := by decide +kernel
theorem dX6_bestDoorOfCall_86 : decode cX6_bestDoorOfCall 86 = .ok (.iload 6, 2) := by decide +kernel
theorem dX6_bestDoorOfCall_88 : decode cX6_bestDoorOfCall 88 = .ok (.istore 5, 2) := by decide +kernel
theorem dX6_bestDoorOfCall_90 : decode cX6_bestDoorOfCall 90 = .ok (.iinc 6 1, 3) := by decide +kernel
theorem dX6_bestDoorOfCall_93 : decode cX6_bestDoorOfCall 93 = .ok (.goto (-84), 3) := by decide +kernel
theorem dX6_bestDoorOfCall_96 : decode cX6_bestDoorOfCall 96 = .ok (.iload_n 3, 1) := by decide +kernel
theorem dX6_bestDoorOfCall_97 : decode cX6_bestDoorOfCall 97 = .ok (.ifCond .ne 8, 3) := by decide +kernel
theorem dX6_bestDoorOfCall_100 : decode cX6_bestDoorOfCall 100 = .ok (.iload 5, 2) := by decide +kernel
theorem dX6_bestDoorOfCall_102 : decode cX6_bestDoorOfCall 102 = .ok (.goto 5, 3) := by decide +kernel
theorem dX6_bestDoorOfCall_105 : decode cX6_bestDoorOfCall 105 = .ok (.iload 4, 2) := by decide +kernel
theorem dX6_bestDoorOfCall_107 : decode cX6_bestDoorOfCall 107 = .ok (.ireturn, 1) := by decide +kernel
theorem dX6_mostNamedPart_0 : decode cX6_mostNamedPart 0 = .ok (.iconst (-1), 1) := by decide +kernel
theorem dX6_mostNamedPart_1 : decode cX6_mostNamedPart 1 = .ok (.istore 5, 2) := by decide +kernel
theorem dX6_mostNamedPart_3 : decode cX6_mostNamedPart 3 = .ok (.iconst 0, 1) := by decide +kernel
theorem dX6_mostNamedPart_4 : decode cX6_mostNamedPart 4 = .ok (.istore 6, 2) := by decide +kernel
theorem dX6_mostNamedPart_6 : decode cX6_mostNamedPart 6 = .ok (.iconst 0, 1) := by decide +kernel
theorem dX6_mostNamedPart_7 : decode cX6_mostNamedPart 7 = .ok (.istore 7, 2) := by decide +kernel
theorem dX6_mostNamedPart_9 : decode cX6_mostNamedPart 9 = .ok (.iload 7, 2) := by decide +kernel
theorem dX6_mostNamedPart_11 : decode cX6_mostNamedPart 11 = .ok (.iload_n 2, 1) := by decide +kernel
theorem dX6_mostNamedPart_12 : decode cX6_mostNamedPart 12 = .ok (.invokestatic 264, 3) := by decide +kernel
theorem dX6_mostNamedPart_15 : decode cX6_mostNamedPart 15 = .ok (.if_icmp .gt 64, 3) := by decide +kernel
theorem dX6_mostNamedPart_18 : decode cX6_mostNamedPart 18 = .ok (.aload_n 0, 1) := by decide +kernel
theorem dX6_mostNamedPart_19 : decode cX6_mostNamedPart 19 = .ok (.getfield 23, 3) := by decide +kernel
theorem dX6_mostNamedPart_22 : decode cX6_mostNamedPart 22 = .ok (.aload_n 0, 1) := by decide +kernel
theorem dX6_mostNamedPart_23 : decode cX6_mostNamedPart 23 = .ok (.getfield 10, 3) := by decide +kernel
theorem dX6_mostNamedPart_26 : decode cX6_mostNamedPart 26 = .ok (.invokevirtual 85, 3) := by decide +kernel
theorem dX6_mostNamedPart_29 : decode cX6_mostNamedPart 29 = .ok (.aload_n 0, 1) := by decide +kernel
theorem dX6_mostNamedPart_30 : decode cX6_mostNamedPart 30 = .ok (.getfield 23, 3) := by decide +kernel
theorem dX6_mostNamedPart_33 : decode cX6_mostNamedPart 33 = .ok (.iload_n 1, 1) := by decide +kernel
theorem dX6_mostNamedPart_34 : decode cX6_mostNamedPart 34 = .ok (.iload_n 2, 1) := by decide +kernel
theorem dX6_mostNamedPart_35 : decode cX6_mostNamedPart 35 = .ok (.iload 7, 2) := by decide +kernel
theorem dX6_mostNamedPart_37 : decode cX6_mostNamedPart 37 = .ok (.invokevirtual 162, 3) := by decide +kernel
theorem dX6_mostNamedPart_40 : decode cX6_mostNamedPart 40 = .ok (.aload_n 0, 1) := by decide +kernel
theorem dX6_mostNamedPart_41 : decode cX6_mostNamedPart 41 = .ok (.getfield 23, 3) := by decide +kernel
theorem dX6_mostNamedPart_44 : decode cX6_mostNamedPart 44 = .ok (.iload_n 3, 1) := by decide +kernel
theorem dX6_mostNamedPart_45 : decode cX6_mostNamedPart 45 = .ok (.invokevirtual 170, 3) := by decide +kernel
theorem dX6_mostNamedPart_48 : decode cX6_mostNamedPart 48 = .ok (.aload_n 0, 1) := by decide +kernel
theorem dX6_mostNamedPart_49 : decode cX6_mostNamedPart 49 = .ok (.getfield 23, 3) := by decide +kernel
theorem dX6_mostNamedPart_52 : decode cX6_mostNamedPart 52 = .ok (.getfield 108, 3) := by decide +kernel
theorem dX6_mostNamedPart_55 : decode cX6_mostNamedPart 55 = .ok (.iload 5, 2) := by decide +kernel
theorem dX6_mostNamedPart_57 : decode cX6_mostNamedPart 57 = .ok (.if_icmp .le 16, 3) := by decide +kernel
theorem dX6_mostNamedPart_60 : decode cX6_mostNamedPart 60 = .ok (.aload_n 0, 1) := by decide +kernel
theorem dX6_mostNamedPart_61 : decode cX6_mostNamedPart 61 = .ok (.getfield 23, 3) := by decide +kernel
theorem dX6_mostNamedPart_64 : decode cX6_mostNamedPart 64 = .ok (.getfield 108, 3) := by decide +kernel
theorem dX6_mostNamedPart_67 : decode cX6_mostNamedPart 67 = .ok (.istore 5, 2) := by decide +kernel
theorem dX6_mostNamedPart_69 : decode cX6_mostNamedPart 69 = .ok (.iload 7, 2) := by decide +kernel
theorem dX6_mostNamedPart_71 : decode cX6_mostNamedPart 71 = .ok (.istore 6, 2) := by decide +kernel
theorem dX6_mostNamedPart_73 : decode cX6_mostNamedPart 73 = .ok (.iinc 7 1, 3) := by decide +kernel
theorem dX6_mostNamedPart_76 : decode cX6_mostNamedPart 76 = .ok (.goto (-67), 3) := by decide +kernel
theorem dX6_mostNamedPart_79 : decode cX6_mostNamedPart 79 = .ok (.iload 4, 2) := by decide +kernel
theorem dX6_mostNamedPart_81 : decode cX6_mostNamedPart 81 = .ok (.ifCond .ne 8, 3) := by decide +kernel
theorem dX6_mostNamedPart_84 : decode cX6_mostNamedPart 84 = .ok (.iload 6, 2) := by decide +kernel
theorem dX6_mostNamedPart_86 : decode cX6_mostNamedPart 86 = .ok (.goto 13, 3) := by decide +kernel
theorem dX6_mostNamedPart_89 : decode cX6_mostNamedPart 89 = .ok (.iload 5, 2) := by decide +kernel
theorem dX6_mostNamedPart_91 : decode cX6_mostNamedPart 91 = .ok (.aload_n 0, 1) := by decide +kernel
theorem dX6_mostNamedPart_92 : decode cX6_mostNamedPart 92 = .ok (.getfield 10, 3) := by decide +kernel
theorem dX6_mostNamedPart_95 : decode cX6_mostNamedPart 95 = .ok (.getfield 108, 3) := by decide +kernel
theorem dX6_mostNamedPart_98 : decode cX6_mostNamedPart 98 = .ok (.isub, 1) := by decide +kernel
theorem dX6_mostNamedPart_99 : decode cX6_mostNamedPart 99 = .ok (.ireturn, 1) := by decide +kernel
theorem dX6_partsAsSeen_0 : decode cX6_partsAsSeen 0 = .ok (.iconst 0, 1) := by decide +kernel
theorem dX6_partsAsSeen_1 : decode cX6_partsAsSeen 1 = .ok (.istore_n 3, 1) := by decide +kernel
theorem dX6_partsAsSeen_2 : decode cX6_partsAsSeen 2 = .ok (.iconst 0, 1) := by decide +kernel
theorem dX6_partsAsSeen_3 : decode cX6_partsAsSeen 3 = .ok (.istore 4, 2) := by decide +kernel
theorem dX6_partsAsSeen_5 : decode cX6_partsAsSeen 5 = .ok (.iload 4, 2) := by decide +kernel
theorem dX6_partsAsSeen_7 : decode cX6_partsAsSeen 7 = .ok (.iload_n 2, 1) := by decide +kernel
theorem dX6_partsAsSeen_8 : decode cX6_partsAsSeen 8 = .ok (.invokestatic 264, 3) := by decide +kernel
theorem dX6_partsAsSeen_11 : decode cX6_partsAsSeen 11 = .ok (.if_icmp .gt 45, 3) := by decide +kernel
theorem dX6_partsAsSeen_14 : decode cX6_partsAsSeen 14 = .ok (.aload_n 0, 1) := by decide +kernel
theorem dX6_partsAsSeen_15 : decode cX6_partsAsSeen 15 = .ok (.getfield 23, 3) := by decide +kernel
theorem dX6_partsAsSeen_18 : decode cX6_partsAsSeen 18 = .ok (.aload_n 0, 1) := by decide +kernel
theorem dX6_partsAsSeen_19 : decode cX6_partsAsSeen 19 = .ok (.getfield 10, 3) := by decide +kernel
theorem dX6_partsAsSeen_22 : decode cX6_partsAsSeen 22 = .ok (.invokevirtual 85, 3) := by decide +kernel
theorem dX6_partsAsSeen_25 : decode cX6_partsAsSeen 25 = .ok (.aload_n 0, 1) := by decide +kernel
theorem dX6_partsAsSeen_26 : decode cX6_partsAsSeen 26 = .ok (.getfield 23, 3) := by decide +kernel
theorem dX6_partsAsSeen_29 : decode cX6_partsAsSeen 29 = .ok (.iload_n 1, 1) := by decide +kernel
theorem dX6_partsAsSeen_30 : decode cX6_partsAsSeen 30 = .ok (.iload_n 2, 1) := by decide +kernel
theorem dX6_partsAsSeen_31 : decode cX6_partsAsSeen 31 = .ok (.iload 4, 2) := by decide +kernel
theorem dX6_partsAsSeen_33 : decode cX6_partsAsSeen 33 = .ok (.invokevirtual 162, 3) := by decide +kernel
theorem dX6_partsAsSeen_36 : decode cX6_partsAsSeen 36 = .ok (.aload_n 0, 1) := by decide +kernel
theorem dX6_partsAsSeen_37 : decode cX6_partsAsSeen 37 = .ok (.invokevirtual 278, 3) := by decide +kernel
theorem dX6_partsAsSeen_40 : decode cX6_partsAsSeen 40 = .ok (.ifCond .eq 10, 3) := by decide +kernel
theorem dX6_partsAsSeen_43 : decode cX6_partsAsSeen 43 = .ok (.iload_n 3, 1) := by decide +kernel
theorem dX6_partsAsSeen_44 : decode cX6_partsAsSeen 44 = .ok (.iconst 1, 1) := by decide +kernel
theorem dX6_partsAsSeen_45 : decode cX6_partsAsSeen 45 = .ok (.iload 4, 2) := by decide +kernel
theorem dX6_partsAsSeen_47 : decode cX6_partsAsSeen 47 = .ok (.ishl, 1) := by decide +kernel
theorem dX6_partsAsSeen_48 : decode cX6_partsAsSeen 48 = .ok (.ior, 1) := by decide +kernel
theorem dX6_partsAsSeen_49 : decode cX6_partsAsSeen 49 = .ok (.istore_n 3, 1) := by decide +kernel
theorem dX6_partsAsSeen_50 : decode cX6_partsAsSeen 50 = .ok (.iinc 4 1, 3) := by decide +kernel
theorem dX6_partsAsSeen_53 : decode cX6_partsAsSeen 53 = .ok (.goto (-48), 3) := by decide +kernel
theorem dX6_partsAsSeen_56 : decode cX6_partsAsSeen 56 = .ok (.iload_n 3, 1) := by decide +kernel
theorem dX6_partsAsSeen_57 : decode cX6_partsAsSeen 57 = .ok (.ireturn, 1) := by decide +kernel
theorem dX6_trialGoesAsSeen_0 : decode cX6_trialGoesAsSeen 0 = .ok (.aload_n 0, 1) := by decide +kernel
theorem dX6_trialGoesAsSeen_1 : decode cX6_trialGoesAsSeen 1 = .ok (.getfield 19, 3) := by decide +kernel
theorem dX6_trialGoesAsSeen_4 : decode cX6_trialGoesAsSeen 4 = .ok (.invokevirtual 281, 3) := by decide +kernel
theorem dX6_trialGoesAsSeen_7 : decode cX6_trialGoesAsSeen 7 = .ok (.istore_n 1, 1) := by decide +kernel
theorem dX6_trialGoesAsSeen_8 : decode cX6_trialGoesAsSeen 8 = .ok (.iconst 0, 1) := by decide +kernel
theorem dX6_trialGoesAsSeen_9 : decode cX6_trialGoesAsSeen 9 = .ok (.istore_n 2, 1) := by decide +kernel
theorem dX6_trialGoesAsSeen_10 : decode cX6_trialGoesAsSeen 10 = .ok (.iload_n 2, 1) := by decide +kernel
theorem dX6_trialGoesAsSeen_11 : decode cX6_trialGoesAsSeen 11 = .ok (.iload_n 1, 1) := by decide +kernel
theorem dX6_trialGoesAsSeen_12 : decode cX6_trialGoesAsSeen 12 = .ok (.if_icmp .gt 34, 3) := by decide +kernel
theorem dX6_trialGoesAsSeen_15 : decode cX6_trialGoesAsSeen 15 = .ok (.aload_n 0, 1) := by decide +kernel
theorem dX6_trialGoesAsSeen_16 : decode cX6_trialGoesAsSeen 16 = .ok (.getfield 19, 3) := by decide +kernel
theorem dX6_trialGoesAsSeen_19 : decode cX6_trialGoesAsSeen 19 = .ok (.iload_n 2, 1) := by decide +kernel
theorem dX6_trialGoesAsSeen_20 : decode cX6_trialGoesAsSeen 20 = .ok (.aload_n 0, 1) := by decide +kernel
theorem dX6_trialGoesAsSeen_21 : decode cX6_trialGoesAsSeen 21 = .ok (.getfield 23, 3) := by decide +kernel
theorem dX6_trialGoesAsSeen_24 : decode cX6_trialGoesAsSeen 24 = .ok (.invokevirtual 284, 3) := by decide +kernel
theorem dX6_trialGoesAsSeen_27 : decode cX6_trialGoesAsSeen 27 = .ok (.ifCond .ne 5, 3) := by decide +kernel
theorem dX6_trialGoesAsSeen_30 : decode cX6_trialGoesAsSeen 30 = .ok (.iconst 0, 1) := by decide +kernel
theorem dX6_trialGoesAsSeen_31 : decode cX6_trialGoesAsSeen 31 = .ok (.ireturn, 1) := by decide +kernel
theorem dX6_trialGoesAsSeen_32 : decode cX6_trialGoesAsSeen 32 = .ok (.aload_n 0, 1) := by decide +kernel
theorem dX6_trialGoesAsSeen_33 : decode cX6_trialGoesAsSeen 33 = .ok (.getfield 23, 3) := by decide +kernel
theorem dX6_trialGoesAsSeen_36 : decode cX6_trialGoesAsSeen 36 = .ok (.iconst 1, 1) := by decide +kernel
theorem dX6_trialGoesAsSeen_37 : decode cX6_trialGoesAsSeen 37 = .ok (.invokevirtual 170, 3) := by decide +kernel
theorem dX6_trialGoesAsSeen_40 : decode cX6_trialGoesAsSeen 40 = .ok (.iinc 2 1, 3) := by decide +kernel
end
section
theorem dX6_trialGoesAsSeen_43 : decode cX6_trialGoesAsSeen 43 = .ok (.goto (-33), 3) := by decide +kernel
theorem dX6_trialGoesAsSeen_46 : decode cX6_trialGoesAsSeen 46 = .ok (.iconst 1, 1) := by decide +kernel
theorem dX6_trialGoesAsSeen_47 : decode cX6_trialGoesAsSeen 47 = .ok (.ireturn, 1) := by decide +kernel
theorem dX6_mostAtOneDoor_0 : decode cX6_mostAtOneDoor 0 = .ok (.iconst 0, 1) := by decide +kernel
theorem dX6_mostAtOneDoor_1 : decode cX6_mostAtOneDoor 1 = .ok (.istore_n 3, 1) := by decide +kernel
theorem dX6_mostAtOneDoor_2 : decode cX6_mostAtOneDoor 2 = .ok (.iconst 0, 1) := by decide +kernel
theorem dX6_mostAtOneDoor_3 : decode cX6_mostAtOneDoor 3 = .ok (.istore 4, 2) := by decide +kernel
theorem dX6_mostAtOneDoor_5 : decode cX6_mostAtOneDoor 5 = .ok (.iload 4, 2) := by decide +kernel
theorem dX6_mostAtOneDoor_7 : decode cX6_mostAtOneDoor 7 = .ok (.bipush 12, 2) := by decide +kernel
theorem dX6_mostAtOneDoor_9 : decode cX6_mostAtOneDoor 9 = .ok (.if_icmp .ge 64, 3) := by decide +kernel
theorem dX6_mostAtOneDoor_12 : decode cX6_mostAtOneDoor 12 = .ok (.iconst 0, 1) := by decide +kernel
theorem dX6_mostAtOneDoor_13 : decode cX6_mostAtOneDoor 13 = .ok (.istore 5, 2) := by decide +kernel
theorem dX6_mostAtOneDoor_15 : decode cX6_mostAtOneDoor 15 = .ok (.iconst 0, 1) := by decide +kernel
theorem dX6_mostAtOneDoor_16 : decode cX6_mostAtOneDoor 16 = .ok (.istore 6, 2) := by decide +kernel
theorem dX6_mostAtOneDoor_18 : decode cX6_mostAtOneDoor 18 = .ok (.iload 6, 2) := by decide +kernel
theorem dX6_mostAtOneDoor_20 : decode cX6_mostAtOneDoor 20 = .ok (.iconst 4, 1) := by decide +kernel
theorem dX6_mostAtOneDoor_21 : decode cX6_mostAtOneDoor 21 = .ok (.if_icmp .ge 39, 3) := by decide +kernel
theorem dX6_mostAtOneDoor_24 : decode cX6_mostAtOneDoor 24 = .ok (.iload_n 2, 1) := by decide +kernel
theorem dX6_mostAtOneDoor_25 : decode cX6_mostAtOneDoor 25 = .ok (.iload 6, 2) := by decide +kernel
theorem dX6_mostAtOneDoor_27 : decode cX6_mostAtOneDoor 27 = .ok (.ishr, 1) := by decide +kernel
theorem dX6_mostAtOneDoor_28 : decode cX6_mostAtOneDoor 28 = .ok (.iconst 1, 1) := by decide +kernel
theorem dX6_mostAtOneDoor_29 : decode cX6_mostAtOneDoor 29 = .ok (.iand, 1) := by decide +kernel
theorem dX6_mostAtOneDoor_30 : decode cX6_mostAtOneDoor 30 = .ok (.iconst 1, 1) := by decide +kernel
theorem dX6_mostAtOneDoor_31 : decode cX6_mostAtOneDoor 31 = .ok (.if_icmp .ne 23, 3) := by decide +kernel
theorem dX6_mostAtOneDoor_34 : decode cX6_mostAtOneDoor 34 = .ok (.aload_n 0, 1) := by decide +kernel
theorem dX6_mostAtOneDoor_35 : decode cX6_mostAtOneDoor 35 = .ok (.getfield 26, 3) := by decide +kernel
theorem dX6_mostAtOneDoor_38 : decode cX6_mostAtOneDoor 38 = .ok (.iload 6, 2) := by decide +kernel
theorem dX6_mostAtOneDoor_40 : decode cX6_mostAtOneDoor 40 = .ok (.aaload, 1) := by decide +kernel
theorem dX6_mostAtOneDoor_41 : decode cX6_mostAtOneDoor 41 = .ok (.getfield 132, 3) := by decide +kernel
theorem dX6_mostAtOneDoor_44 : decode cX6_mostAtOneDoor 44 = .ok (.iload_n 1, 1) := by decide +kernel
theorem dX6_mostAtOneDoor_45 : decode cX6_mostAtOneDoor 45 = .ok (.iaload, 1) := by decide +kernel
theorem dX6_mostAtOneDoor_46 : decode cX6_mostAtOneDoor 46 = .ok (.iload 4, 2) := by decide +kernel
theorem dX6_mostAtOneDoor_48 : decode cX6_mostAtOneDoor 48 = .ok (.if_icmp .ne 6, 3) := by decide +kernel
theorem dX6_mostAtOneDoor_51 : decode cX6_mostAtOneDoor 51 = .ok (.iinc 5 1, 3) := by decide +kernel
theorem dX6_mostAtOneDoor_54 : decode cX6_mostAtOneDoor 54 = .ok (.iinc 6 1, 3) := by decide +kernel
theorem dX6_mostAtOneDoor_57 : decode cX6_mostAtOneDoor 57 = .ok (.goto (-39), 3) := by decide +kernel
theorem dX6_mostAtOneDoor_60 : decode cX6_mostAtOneDoor 60 = .ok (.iload_n 3, 1) := by decide +kernel
theorem dX6_mostAtOneDoor_61 : decode cX6_mostAtOneDoor 61 = .ok (.iload 5, 2) := by decide +kernel
theorem dX6_mostAtOneDoor_63 : decode cX6_mostAtOneDoor 63 = .ok (.invokestatic 275, 3) := by decide +kernel
theorem dX6_mostAtOneDoor_66 : decode cX6_mostAtOneDoor 66 = .ok (.istore_n 3, 1) := by decide +kernel
theorem dX6_mostAtOneDoor_67 : decode cX6_mostAtOneDoor 67 = .ok (.iinc 4 1, 3) := by decide +kernel
theorem dX6_mostAtOneDoor_70 : decode cX6_mostAtOneDoor 70 = .ok (.goto (-65), 3) := by decide +kernel
theorem dX6_mostAtOneDoor_73 : decode cX6_mostAtOneDoor 73 = .ok (.iload_n 3, 1) := by decide +kernel
theorem dX6_mostAtOneDoor_74 : decode cX6_mostAtOneDoor 74 = .ok (.ireturn, 1) := by decide +kernel
theorem dX6_fractionByOdds_0 : decode cX6_fractionByOdds 0 = .ok (.aload_n 0, 1) := by decide +kernel
theorem dX6_fractionByOdds_1 : decode cX6_fractionByOdds 1 = .ok (.getfield 26, 3) := by decide +kernel
theorem dX6_fractionByOdds_4 : decode cX6_fractionByOdds 4 = .ok (.iconst 0, 1) := by decide +kernel
theorem dX6_fractionByOdds_5 : decode cX6_fractionByOdds 5 = .ok (.aaload, 1) := by decide +kernel
theorem dX6_fractionByOdds_6 : decode cX6_fractionByOdds 6 = .ok (.aload_n 0, 1) := by decide +kernel
theorem dX6_fractionByOdds_7 : decode cX6_fractionByOdds 7 = .ok (.getfield 10, 3) := by decide +kernel
theorem dX6_fractionByOdds_10 : decode cX6_fractionByOdds 10 = .ok (.invokevirtual 85, 3) := by decide +kernel
theorem dX6_fractionByOdds_13 : decode cX6_fractionByOdds 13 = .ok (.aload_n 0, 1) := by decide +kernel
theorem dX6_fractionByOdds_14 : decode cX6_fractionByOdds 14 = .ok (.getfield 26, 3) := by decide +kernel
theorem dX6_fractionByOdds_17 : decode cX6_fractionByOdds 17 = .ok (.iconst 0, 1) := by decide +kernel
theorem dX6_fractionByOdds_18 : decode cX6_fractionByOdds 18 = .ok (.iload_n 3, 1) := by decide +kernel
theorem dX6_fractionByOdds_19 : decode cX6_fractionByOdds 19 = .ok (.iload_n 1, 1) := by decide +kernel
theorem dX6_fractionByOdds_20 : decode cX6_fractionByOdds 20 = .ok (.iload_n 2, 1) := by decide +kernel
theorem dX6_fractionByOdds_21 : decode cX6_fractionByOdds 21 = .ok (.invokestatic 288, 3) := by decide +kernel
theorem dX6_fractionByOdds_24 : decode cX6_fractionByOdds 24 = .ok (.lstore 5, 2) := by decide +kernel
theorem dX6_fractionByOdds_26 : decode cX6_fractionByOdds 26 = .ok (.lconst 1, 1) := by decide +kernel
theorem dX6_fractionByOdds_27 : decode cX6_fractionByOdds 27 = .ok (.lstore 7, 2) := by decide +kernel
theorem dX6_fractionByOdds_29 : decode cX6_fractionByOdds 29 = .ok (.iconst 0, 1) := by decide +kernel
theorem dX6_fractionByOdds_30 : decode cX6_fractionByOdds 30 = .ok (.istore 9, 2) := by decide +kernel
theorem dX6_fractionByOdds_32 : decode cX6_fractionByOdds 32 = .ok (.iload 9, 2) := by decide +kernel
theorem dX6_fractionByOdds_34 : decode cX6_fractionByOdds 34 = .ok (.iload_n 3, 1) := by decide +kernel
theorem dX6_fractionByOdds_35 : decode cX6_fractionByOdds 35 = .ok (.if_icmp .ge 17, 3) := by decide +kernel
theorem dX6_fractionByOdds_38 : decode cX6_fractionByOdds 38 = .ok (.lload 7, 2) := by decide +kernel
theorem dX6_fractionByOdds_40 : decode cX6_fractionByOdds 40 = .ok (.ldc2_w 292, 3) := by decide +kernel
theorem dX6_fractionByOdds_43 : decode cX6_fractionByOdds 43 = .ok (.lmul, 1) := by decide +kernel
theorem dX6_fractionByOdds_44 : decode cX6_fractionByOdds 44 = .ok (.lstore 7, 2) := by decide +kernel
theorem dX6_fractionByOdds_46 : decode cX6_fractionByOdds 46 = .ok (.iinc 9 1, 3) := by decide +kernel
theorem dX6_fractionByOdds_49 : decode cX6_fractionByOdds 49 = .ok (.goto (-17), 3) := by decide +kernel
theorem dX6_fractionByOdds_52 : decode cX6_fractionByOdds 52 = .ok (.lload 7, 2) := by decide +kernel
theorem dX6_fractionByOdds_54 : decode cX6_fractionByOdds 54 = .ok (.lload 5, 2) := by decide +kernel
theorem dX6_fractionByOdds_56 : decode cX6_fractionByOdds 56 = .ok (.invokestatic 294, 3) := by decide +kernel
theorem dX6_fractionByOdds_59 : decode cX6_fractionByOdds 59 = .ok (.lstore 9, 2) := by decide +kernel
theorem dX6_fractionByOdds_61 : decode cX6_fractionByOdds 61 = .ok (.iload 4, 2) := by decide +kernel
theorem dX6_fractionByOdds_63 : decode cX6_fractionByOdds 63 = .ok (.ifCond .ne 8, 3) := by decide +kernel
theorem dX6_fractionByOdds_66 : decode cX6_fractionByOdds 66 = .ok (.lload 5, 2) := by decide +kernel
theorem dX6_fractionByOdds_68 : decode cX6_fractionByOdds 68 = .ok (.goto 5, 3) := by decide +kernel
theorem dX6_fractionByOdds_71 : decode cX6_fractionByOdds 71 = .ok (.lload 7, 2) := by decide +kernel
theorem dX6_fractionByOdds_73 : decode cX6_fractionByOdds 73 = .ok (.lload 9, 2) := by decide +kernel
theorem dX6_fractionByOdds_75 : decode cX6_fractionByOdds 75 = .ok (.ldiv, 1) := by decide +kernel
theorem dX6_fractionByOdds_76 : decode cX6_fractionByOdds 76 = .ok (.lreturn, 1) := by decide +kernel
theorem dX6_weighedBranches_0 : decode cX6_weighedBranches 0 = .ok (.aload_n 0, 1) := by decide +kernel
theorem dX6_weighedBranches_1 : decode cX6_weighedBranches 1 = .ok (.iload_n 1, 1) := by decide +kernel
theorem dX6_weighedBranches_2 : decode cX6_weighedBranches 2 = .ok (.aaload, 1) := by decide +kernel
theorem dX6_weighedBranches_3 : decode cX6_weighedBranches 3 = .ok (.astore 5, 2) := by decide +kernel
theorem dX6_weighedBranches_5 : decode cX6_weighedBranches 5 = .ok (.iload_n 1, 1) := by decide +kernel
theorem dX6_weighedBranches_6 : decode cX6_weighedBranches 6 = .ok (.iload_n 2, 1) := by decide +kernel
theorem dX6_weighedBranches_7 : decode cX6_weighedBranches 7 = .ok (.if_icmp .ge 11, 3) := by decide +kernel
theorem dX6_weighedBranches_10 : decode cX6_weighedBranches 10 = .ok (.iload_n 1, 1) := by decide +kernel
theorem dX6_weighedBranches_11 : decode cX6_weighedBranches 11 = .ok (.iconst 1, 1) := by decide +kernel
theorem dX6_weighedBranches_12 : decode cX6_weighedBranches 12 = .ok (.iadd, 1) := by decide +kernel
theorem dX6_weighedBranches_13 : decode cX6_weighedBranches 13 = .ok (.aload_n 0, 1) := by decide +kernel
theorem dX6_weighedBranches_14 : decode cX6_weighedBranches 14 = .ok (.arraylength, 1) := by decide +kernel
theorem dX6_weighedBranches_15 : decode cX6_weighedBranches 15 = .ok (.if_icmp .lt 37, 3) := by decide +kernel
theorem dX6_weighedBranches_18 : decode cX6_weighedBranches 18 = .ok (.iload 4, 2) := by decide +kernel
theorem dX6_weighedBranches_20 : decode cX6_weighedBranches 20 = .ok (.iconst (-1), 1) := by decide +kernel
theorem dX6_weighedBranches_21 : decode cX6_weighedBranches 21 = .ok (.if_icmp .ne 19, 3) := by decide +kernel
theorem dX6_weighedBranches_24 : decode cX6_weighedBranches 24 = .ok (.aload 5, 2) := by decide +kernel
theorem dX6_weighedBranches_26 : decode cX6_weighedBranches 26 = .ok (.getfield 108, 3) := by decide +kernel
theorem dX6_weighedBranches_29 : decode cX6_weighedBranches 29 = .ok (.aload_n 0, 1) := by decide +kernel
theorem dX6_weighedBranches_30 : decode cX6_weighedBranches 30 = .ok (.iconst 0, 1) := by decide +kernel
theorem dX6_weighedBranches_31 : decode cX6_weighedBranches 31 = .ok (.aaload, 1) := by decide +kernel
theorem dX6_weighedBranches_32 : decode cX6_weighedBranches 32 = .ok (.getfield 108, 3) := by decide +kernel
theorem dX6_weighedBranches_35 : decode cX6_weighedBranches 35 = .ok (.isub, 1) := by decide +kernel
theorem dX6_weighedBranches_36 : decode cX6_weighedBranches 36 = .ok (.i2l, 1) := by decide +kernel
theorem dX6_weighedBranches_37 : decode cX6_weighedBranches 37 = .ok (.goto 14, 3) := by decide +kernel
theorem dX6_weighedBranches_40 : decode cX6_weighedBranches 40 = .ok (.aload 5, 2) := by decide +kernel
theorem dX6_weighedBranches_42 : decode cX6_weighedBranches 42 = .ok (.getfield 111, 3) := by decide +kernel
theorem dX6_weighedBranches_45 : decode cX6_weighedBranches 45 = .ok (.iload 4, 2) := by decide +kernel
theorem dX6_weighedBranches_47 : decode cX6_weighedBranches 47 = .ok (.ishr, 1) := by decide +kernel
theorem dX6_weighedBranches_48 : decode cX6_weighedBranches 48 = .ok (.iconst 1, 1) := by decide +kernel
theorem dX6_weighedBranches_49 : decode cX6_weighedBranches 49 = .ok (.iand, 1) := by decide +kernel
theorem dX6_weighedBranches_50 : decode cX6_weighedBranches 50 = .ok (.i2l, 1) := by decide +kernel
theorem dX6_weighedBranches_51 : decode cX6_weighedBranches 51 = .ok (.lreturn, 1) := by decide +kernel
theorem dX6_weighedBranches_52 : decode cX6_weighedBranches 52 = .ok (.aload_n 0, 1) := by decide +kernel
theorem dX6_weighedBranches_53 : decode cX6_weighedBranches 53 = .ok (.iload_n 1, 1) := by decide +kernel
theorem dX6_weighedBranches_54 : decode cX6_weighedBranches 54 = .ok (.iconst 1, 1) := by decide +kernel
theorem dX6_weighedBranches_55 : decode cX6_weighedBranches 55 = .ok (.iadd, 1) := by decide +kernel
theorem dX6_weighedBranches_56 : decode cX6_weighedBranches 56 = .ok (.aaload, 1) := by decide +kernel
theorem dX6_weighedBranches_57 : decode cX6_weighedBranches 57 = .ok (.astore 6, 2) := by decide +kernel
theorem dX6_weighedBranches_59 : decode cX6_weighedBranches 59 = .ok (.lconst 0, 1) := by decide +kernel
theorem dX6_weighedBranches_60 : decode cX6_weighedBranches 60 = .ok (.lstore 7, 2) := by decide +kernel
theorem dX6_weighedBranches_62 : decode cX6_weighedBranches 62 = .ok (.iload_n 3, 1) := by decide +kernel
theorem dX6_weighedBranches_63 : decode cX6_weighedBranches 63 = .ok (.ifCond .le 39, 3) := by decide +kernel
theorem dX6_weighedBranches_66 : decode cX6_weighedBranches 66 = .ok (.aload 6, 2) := by decide +kernel
theorem dX6_weighedBranches_68 : decode cX6_weighedBranches 68 = .ok (.aload 5, 2) := by decide +kernel
theorem dX6_weighedBranches_70 : decode cX6_weighedBranches 70 = .ok (.invokevirtual 85, 3) := by decide +kernel
theorem dX6_weighedBranches_73 : decode cX6_weighedBranches 73 = .ok (.aload 6, 2) := by decide +kernel
theorem dX6_weighedBranches_75 : decode cX6_weighedBranches 75 = .ok (.aload 5, 2) := by decide +kernel
theorem dX6_weighedBranches_77 : decode cX6_weighedBranches 77 = .ok (.getfield 105, 3) := by decide +kernel
theorem dX6_weighedBranches_80 : decode cX6_weighedBranches 80 = .ok (.invokevirtual 216, 3) := by decide +kernel
theorem dX6_weighedBranches_83 : decode cX6_weighedBranches 83 = .ok (.lload 7, 2) := by decide +kernel
theorem dX6_weighedBranches_85 : decode cX6_weighedBranches 85 = .ok (.iload_n 3, 1) := by decide +kernel
theorem dX6_weighedBranches_86 : decode cX6_weighedBranches 86 = .ok (.i2l, 1) := by decide +kernel
theorem dX6_weighedBranches_87 : decode cX6_weighedBranches 87 = .ok (.aload_n 0, 1) := by decide +kernel
theorem dX6_weighedBranches_88 : decode cX6_weighedBranches 88 = .ok (.iload_n 1, 1) := by decide +kernel
theorem dX6_weighedBranches_89 : decode cX6_weighedBranches 89 = .ok (.iconst 1, 1) := by decide +kernel
theorem dX6_weighedBranches_90 : decode cX6_weighedBranches 90 = .ok (.iadd, 1) := by decide +kernel
theorem dX6_weighedBranches_91 : decode cX6_weighedBranches 91 = .ok (.iload_n 2, 1) := by decide +kernel
theorem dX6_weighedBranches_92 : decode cX6_weighedBranches 92 = .ok (.iload_n 3, 1) := by decide +kernel
theorem dX6_weighedBranches_93 : decode cX6_weighedBranches 93 = .ok (.iload 4, 2) := by decide +kernel
theorem dX6_weighedBranches_95 : decode cX6_weighedBranches 95 = .ok (.invokestatic 288, 3) := by decide +kernel
theorem dX6_weighedBranches_98 : decode cX6_weighedBranches 98 = .ok (.lmul, 1) := by decide +kernel
theorem dX6_weighedBranches_99 : decode cX6_weighedBranches 99 = .ok (.ladd, 1) := by decide +kernel
theorem dX6_weighedBranches_100 : decode cX6_weighedBranches 100 = .ok (.lstore 7, 2) := by decide +kernel
theorem dX6_weighedBranches_102 : decode cX6_weighedBranches 102 = .ok (.iload_n 3, 1) := by decide +kernel
theorem dX6_weighedBranches_103 : decode cX6_weighedBranches 103 = .ok (.bipush 10, 2) := by decide +kernel
theorem dX6_weighedBranches_105 : decode cX6_weighedBranches 105 = .ok (.if_icmp .ge 38, 3) := by decide +kernel
theorem dX6_weighedBranches_108 : decode cX6_weighedBranches 108 = .ok (.aload 6, 2) := by decide +kernel
theorem dX6_weighedBranches_110 : decode cX6_weighedBranches 110 = .ok (.aload 5, 2) := by decide +kernel
theorem dX6_weighedBranches_112 : decode cX6_weighedBranches 112 = .ok (.invokevirtual 85, 3) := by decide +kernel
theorem dX6_weighedBranches_115 : decode cX6_weighedBranches 115 = .ok (.aload 6, 2) := by decide +kernel
theorem dX6_weighedBranches_117 : decode cX6_weighedBranches 117 = .ok (.iconst 1, 1) := by decide +kernel
theorem dX6_weighedBranches_118 : decode cX6_weighedBranches 118 = .ok (.invokevirtual 170, 3) := by decide +kernel
theorem dX6_weighedBranches_121 : decode cX6_weighedBranches 121 = .ok (.lload 7, 2) := by decide +kernel
theorem dX6_weighedBranches_123 : decode cX6_weighedBranches 123 = .ok (.bipush 10, 2) := by decide +kernel
theorem dX6_weighedBranches_125 : decode cX6_weighedBranches 125 = .ok (.iload_n 3, 1) := by decide +kernel
theorem dX6_weighedBranches_126 : decode cX6_weighedBranches 126 = .ok (.isub, 1) := by decide +kernel
theorem dX6_weighedBranches_127 : decode cX6_weighedBranches 127 = .ok (.i2l, 1) := by decide +kernel
theorem dX6_weighedBranches_128 : decode cX6_weighedBranches 128 = .ok (.aload_n 0, 1) := by decide +kernel
theorem dX6_weighedBranches_129 : decode cX6_weighedBranches 129 = .ok (.iload_n 1, 1) := by decide +kernel
theorem dX6_weighedBranches_130 : decode cX6_weighedBranches 130 = .ok (.iconst 1, 1) := by decide +kernel
theorem dX6_weighedBranches_131 : decode cX6_weighedBranches 131 = .ok (.iadd, 1) := by decide +kernel
theorem dX6_weighedBranches_132 : decode cX6_weighedBranches 132 = .ok (.iload_n 2, 1) := by decide +kernel
theorem dX6_weighedBranches_133 : decode cX6_weighedBranches 133 = .ok (.iload_n 3, 1) := by decide +kernel
theorem dX6_weighedBranches_134 : decode cX6_weighedBranches 134 = .ok (.iload 4, 2) := by decide +kernel
theorem dX6_weighedBranches_136 : decode cX6_weighedBranches 136 = .ok (.invokestatic 288, 3) := by decide +kernel
theorem dX6_weighedBranches_139 : decode cX6_weighedBranches 139 = .ok (.lmul, 1) := by decide +kernel
theorem dX6_weighedBranches_140 : decode cX6_weighedBranches 140 = .ok (.ladd, 1) := by decide +kernel
theorem dX6_weighedBranches_141 : decode cX6_weighedBranches 141 = .ok (.lstore 7, 2) := by decide +kernel
theorem dX6_weighedBranches_143 : decode cX6_weighedBranches 143 = .ok (.lload 7, 2) := by decide +kernel
theorem dX6_weighedBranches_145 : decode cX6_weighedBranches 145 = .ok (.lreturn, 1) := by decide +kernel
theorem dX6_commonDivisor_0 : decode cX6_commonDivisor 0 = .ok (.lload_n 0, 1) := by decide +kernel
theorem dX6_commonDivisor_1 : decode cX6_commonDivisor 1 = .ok (.lstore 4, 2) := by decide +kernel
theorem dX6_commonDivisor_3 : decode cX6_commonDivisor 3 = .ok (.lload_n 2, 1) := by decide +kernel
theorem dX6_commonDivisor_4 : decode cX6_commonDivisor 4 = .ok (.lstore 6, 2) := by decide +kernel
theorem dX6_commonDivisor_6 : decode cX6_commonDivisor 6 = .ok (.iconst 0, 1) := by decide +kernel
theorem dX6_commonDivisor_7 : decode cX6_commonDivisor 7 = .ok (.istore 8, 2) := by decide +kernel
theorem dX6_commonDivisor_9 : decode cX6_commonDivisor 9 = .ok (.iload 8, 2) := by decide +kernel
theorem dX6_commonDivisor_11 : decode cX6_commonDivisor 11 = .ok (.bipush 100, 2) := by decide +kernel
theorem dX6_commonDivisor_13 : decode cX6_commonDivisor 13 = .ok (.if_icmp .ge 31, 3) := by decide +kernel
theorem dX6_commonDivisor_16 : decode cX6_commonDivisor 16 = .ok (.lload 6, 2) := by decide +kernel
theorem dX6_commonDivisor_18 : decode cX6_commonDivisor 18 = .ok (.lconst 0, 1) := by decide +kernel
theorem dX6_commonDivisor_19 : decode cX6_commonDivisor 19 = .ok (.lcmp, 1) := by decide +kernel
theorem dX6_commonDivisor_20 : decode cX6_commonDivisor 20 = .ok (.ifCond .le 24, 3) := by decide +kernel
theorem dX6_commonDivisor_23 : decode cX6_commonDivisor 23 = .ok (.lload 4, 2) := by decide +kernel
theorem dX6_commonDivisor_25 : decode cX6_commonDivisor 25 = .ok (.lload 6, 2) := by decide +kernel
theorem dX6_commonDivisor_27 : decode cX6_commonDivisor 27 = .ok (.lrem, 1) := by decide +kernel
theorem dX6_commonDivisor_28 : decode cX6_commonDivisor 28 = .ok (.lstore 9, 2) := by decide +kernel
theorem dX6_commonDivisor_30 : decode cX6_commonDivisor 30 = .ok (.lload 6, 2) := by decide +kernel
theorem dX6_commonDivisor_32 : decode cX6_commonDivisor 32 = .ok (.lstore 4, 2) := by decide +kernel
theorem dX6_commonDivisor_34 : decode cX6_commonDivisor 34 = .ok (.lload 9, 2) := by decide +kernel
theorem dX6_commonDivisor_36 : decode cX6_commonDivisor 36 = .ok (.lstore 6, 2) := by decide +kernel
theorem dX6_commonDivisor_38 : decode cX6_commonDivisor 38 = .ok (.iinc 8 1, 3) := by decide +kernel
theorem dX6_commonDivisor_41 : decode cX6_commonDivisor 41 = .ok (.goto (-32), 3) := by decide +kernel
theorem dX6_commonDivisor_44 : decode cX6_commonDivisor 44 = .ok (.lload 4, 2) := by decide +kernel
theorem dX6_commonDivisor_46 : decode cX6_commonDivisor 46 = .ok (.lconst 1, 1) := by decide +kernel
theorem dX6_commonDivisor_47 : decode cX6_commonDivisor 47 = .ok (.invokestatic 298, 3) := by decide +kernel
theorem dX6_commonDivisor_50 : decode cX6_commonDivisor 50 = .ok (.lreturn, 1) := by decide +kernel
end
section
theorem dX7_init_0 : decode cX7_init 0 = .ok (.aload_n 0, 1) := by decide +kernel
theorem dX7_init_1 : decode cX7_init 1 = .ok (.invokespecial 1, 3) := by decide +kernel
theorem dX7_init_4 : decode cX7_init 4 = .ok (.aload_n 0, 1) := by decide +kernel
theorem dX7_init_5 : decode cX7_init 5 = .ok (.sipush 171, 3) := by decide +kernel
theorem dX7_init_8 : decode cX7_init 8 = .ok (.newarray .int, 2) := by decide +kernel
theorem dX7_init_10 : decode cX7_init 10 = .ok (.putfield 7, 3) := by decide +kernel
theorem dX7_init_13 : decode cX7_init 13 = .ok (.aload_n 0, 1) := by decide +kernel
theorem dX7_init_14 : decode cX7_init 14 = .ok (.bipush 57, 2) := by decide +kernel
theorem dX7_init_16 : decode cX7_init 16 = .ok (.newarray .int, 2) := by decide +kernel
theorem dX7_init_18 : decode cX7_init 18 = .ok (.putfield 13, 3) := by decide +kernel
theorem dX7_init_21 : decode cX7_init 21 = .ok (.aload_n 0, 1) := by decide +kernel
theorem dX7_init_22 : decode cX7_init 22 = .ok (.iconst 2, 1) := by decide +kernel
theorem dX7_init_23 : decode cX7_init 23 = .ok (.newarray .boolean, 2) := by decide +kernel
theorem dX7_init_25 : decode cX7_init 25 = .ok (.putfield 16, 3) := by decide +kernel
theorem dX7_init_28 : decode cX7_init 28 = .ok (.aload_n 0, 1) := by decide +kernel
theorem dX7_init_29 : decode cX7_init 29 = .ok (.bipush 57, 2) := by decide +kernel
theorem dX7_init_31 : decode cX7_init 31 = .ok (.newarray .int, 2) := by decide +kernel
theorem dX7_init_33 : decode cX7_init 33 = .ok (.putfield 20, 3) := by decide +kernel
theorem dX7_init_36 : decode cX7_init 36 = .ok (.aload_n 0, 1) := by decide +kernel
theorem dX7_init_37 : decode cX7_init 37 = .ok (.sipush 160, 3) := by decide +kernel
theorem dX7_init_40 : decode cX7_init 40 = .ok (.newarray .int, 2) := by decide +kernel
theorem dX7_init_42 : decode cX7_init 42 = .ok (.putfield 23, 3) := by decide +kernel
theorem dX7_init_45 : decode cX7_init 45 = .ok (.aload_n 0, 1) := by decide +kernel
theorem dX7_init_46 : decode cX7_init 46 = .ok (.bipush 84, 2) := by decide +kernel
theorem dX7_init_48 : decode cX7_init 48 = .ok (.newarray .int, 2) := by decide +kernel
theorem dX7_init_50 : decode cX7_init 50 = .ok (.putfield 26, 3) := by decide +kernel
theorem dX7_init_53 : decode cX7_init 53 = .ok (.aload_n 0, 1) := by decide +kernel
theorem dX7_init_54 : decode cX7_init 54 = .ok (.bipush 84, 2) := by decide +kernel
theorem dX7_init_56 : decode cX7_init 56 = .ok (.newarray .int, 2) := by decide +kernel
theorem dX7_init_58 : decode cX7_init 58 = .ok (.putfield 29, 3) := by decide +kernel
theorem dX7_init_61 : decode cX7_init 61 = .ok (.aload_n 0, 1) := by decide +kernel
theorem dX7_init_62 : decode cX7_init 62 = .ok (.iconst 4, 1) := by decide +kernel
theorem dX7_init_63 : decode cX7_init 63 = .ok (.newarray .int, 2) := by decide +kernel
theorem dX7_init_65 : decode cX7_init 65 = .ok (.putfield 32, 3) := by decide +kernel
theorem dX7_init_68 : decode cX7_init 68 = .ok (.aload_n 0, 1) := by decide +kernel
theorem dX7_init_69 : decode cX7_init 69 = .ok (.iconst 4, 1) := by decide +kernel
theorem dX7_init_70 : decode cX7_init 70 = .ok (.newarray .int, 2) := by decide +kernel
theorem dX7_init_72 : decode cX7_init 72 = .ok (.putfield 35, 3) := by decide +kernel
theorem dX7_init_75 : decode cX7_init 75 = .ok (.aload_n 0, 1) := by decide +kernel
theorem dX7_init_76 : decode cX7_init 76 = .ok (.sipush 160, 3) := by decide +kernel
theorem dX7_init_79 : decode cX7_init 79 = .ok (.newarray .int, 2) := by decide +kernel
theorem dX7_init_81 : decode cX7_init 81 = .ok (.putfield 38, 3) := by decide +kernel
theorem dX7_init_84 : decode cX7_init 84 = .ok (.aload_n 0, 1) := by decide +kernel
theorem dX7_init_85 : decode cX7_init 85 = .ok (.bipush 57, 2) := by decide +kernel
theorem dX7_init_87 : decode cX7_init 87 = .ok (.newarray .int, 2) := by decide +kernel
theorem dX7_init_89 : decode cX7_init 89 = .ok (.putfield 41, 3) := by decide +kernel
theorem dX7_init_92 : decode cX7_init 92 = .ok (.iconst 0, 1) := by decide +kernel
theorem dX7_init_93 : decode cX7_init 93 = .ok (.istore_n 1, 1) := by decide +kernel
theorem dX7_init_94 : decode cX7_init 94 = .ok (.iload_n 1, 1) := by decide +kernel
theorem dX7_init_95 : decode cX7_init 95 = .ok (.iconst 4, 1) := by decide +kernel
theorem dX7_init_96 : decode cX7_init 96 = .ok (.if_icmp .ge 17, 3) := by decide +kernel
theorem dX7_init_99 : decode cX7_init 99 = .ok (.aload_n 0, 1) := by decide +kernel
theorem dX7_init_100 : decode cX7_init 100 = .ok (.getfield 32, 3) := by decide +kernel
theorem dX7_init_103 : decode cX7_init 103 = .ok (.iload_n 1, 1) := by decide +kernel
theorem dX7_init_104 : decode cX7_init 104 = .ok (.bipush (-4), 2) := by decide +kernel
theorem dX7_init_106 : decode cX7_init 106 = .ok (.iastore, 1) := by decide +kernel
theorem dX7_init_107 : decode cX7_init 107 = .ok (.iinc 1 1, 3) := by decide +kernel
theorem dX7_init_110 : decode cX7_init 110 = .ok (.goto (-16), 3) := by decide +kernel
theorem dX7_init_113 : decode cX7_init 113 = .ok (.aload_n 0, 1) := by decide +kernel
theorem dX7_init_114 : decode cX7_init 114 = .ok (.invokevirtual 44, 3) := by decide +kernel
theorem dX7_init_117 : decode cX7_init 117 = .ok (.aload_n 0, 1) := by decide +kernel
theorem dX7_init_118 : decode cX7_init 118 = .ok (.invokevirtual 47, 3) := by decide +kernel
theorem dX7_init_121 : decode cX7_init 121 = .ok (.return_, 1) := by decide +kernel
theorem dX7_in_0 : decode cX7_in 0 = .ok (.lload_n 0, 1) := by decide +kernel
theorem dX7_in_1 : decode cX7_in 1 = .ok (.lload_n 2, 1) := by decide +kernel
theorem dX7_in_2 : decode cX7_in 2 = .ok (.lcmp, 1) := by decide +kernel
theorem dX7_in_3 : decode cX7_in 3 = .ok (.ifCond .lt 14, 3) := by decide +kernel
theorem dX7_in_6 : decode cX7_in 6 = .ok (.lload_n 0, 1) := by decide +kernel
theorem dX7_in_7 : decode cX7_in 7 = .ok (.lload 4, 2) := by decide +kernel
theorem dX7_in_9 : decode cX7_in 9 = .ok (.lcmp, 1) := by decide +kernel
theorem dX7_in_10 : decode cX7_in 10 = .ok (.ifCond .gt 7, 3) := by decide +kernel
theorem dX7_in_13 : decode cX7_in 13 = .ok (.iconst 1, 1) := by decide +kernel
theorem dX7_in_14 : decode cX7_in 14 = .ok (.goto 4, 3) := by decide +kernel
theorem dX7_in_17 : decode cX7_in 17 = .ok (.iconst 0, 1) := by decide +kernel
theorem dX7_in_18 : decode cX7_in 18 = .ok (.ireturn, 1) := by decide +kernel
theorem dX7_flag_0 : decode cX7_flag 0 = .ok (.iload_n 0, 1) := by decide +kernel
theorem dX7_flag_1 : decode cX7_flag 1 = .ok (.ifCond .eq 7, 3) := by decide +kernel
theorem dX7_flag_4 : decode cX7_flag 4 = .ok (.iconst 1, 1) := by decide +kernel
theorem dX7_flag_5 : decode cX7_flag 5 = .ok (.goto 4, 3) := by decide +kernel
theorem dX7_flag_8 : decode cX7_flag 8 = .ok (.iconst 0, 1) := by decide +kernel
theorem dX7_flag_9 : decode cX7_flag 9 = .ok (.ireturn, 1) := by decide +kernel
theorem dX7_lesser_0 : decode cX7_lesser 0 = .ok (.iload_n 0, 1) := by decide +kernel
theorem dX7_lesser_1 : decode cX7_lesser 1 = .ok (.iload_n 1, 1) := by decide +kernel
theorem dX7_lesser_2 : decode cX7_lesser 2 = .ok (.if_icmp .ge 7, 3) := by decide +kernel
theorem dX7_lesser_5 : decode cX7_lesser 5 = .ok (.iload_n 0, 1) := by decide +kernel
theorem dX7_lesser_6 : decode cX7_lesser 6 = .ok (.goto 4, 3) := by decide +kernel
theorem dX7_lesser_9 : decode cX7_lesser 9 = .ok (.iload_n 1, 1) := by decide +kernel
theorem dX7_lesser_10 : decode cX7_lesser 10 = .ok (.ireturn, 1) := by decide +kernel
theorem dX7_firstDraft_0 : decode cX7_firstDraft 0 = .ok (.iconst 0, 1) := by decide +kernel
theorem dX7_firstDraft_1 : decode cX7_firstDraft 1 = .ok (.istore_n 1, 1) := by decide +kernel
theorem dX7_firstDraft_2 : decode cX7_firstDraft 2 = .ok (.iload_n 1, 1) := by decide +kernel
theorem dX7_firstDraft_3 : decode cX7_firstDraft 3 = .ok (.bipush 57, 2) := by decide +kernel
theorem dX7_firstDraft_5 : decode cX7_firstDraft 5 = .ok (.if_icmp .ge 16, 3) := by decide +kernel
theorem dX7_firstDraft_8 : decode cX7_firstDraft 8 = .ok (.aload_n 0, 1) := by decide +kernel
theorem dX7_firstDraft_9 : decode cX7_firstDraft 9 = .ok (.getfield 20, 3) := by decide +kernel
theorem dX7_firstDraft_12 : decode cX7_firstDraft 12 = .ok (.iload_n 1, 1) := by decide +kernel
theorem dX7_firstDraft_13 : decode cX7_firstDraft 13 = .ok (.iconst 0, 1) := by decide +kernel
theorem dX7_firstDraft_14 : decode cX7_firstDraft 14 = .ok (.iastore, 1) := by decide +kernel
theorem dX7_firstDraft_15 : decode cX7_firstDraft 15 = .ok (.iinc 1 1, 3) := by decide +kernel
theorem dX7_firstDraft_18 : decode cX7_firstDraft 18 = .ok (.goto (-16), 3) := by decide +kernel
theorem dX7_firstDraft_21 : decode cX7_firstDraft 21 = .ok (.aload_n 0, 1) := by decide +kernel
theorem dX7_firstDraft_22 : decode cX7_firstDraft 22 = .ok (.iconst 0, 1) := by decide +kernel
theorem dX7_firstDraft_23 : decode cX7_firstDraft 23 = .ok (.putfield 50, 3) := by decide +kernel
theorem dX7_firstDraft_26 : decode cX7_firstDraft 26 = .ok (.aload_n 0, 1) := by decide +kernel
theorem dX7_firstDraft_27 : decode cX7_firstDraft 27 = .ok (.iconst 0, 1) := by decide +kernel
theorem dX7_firstDraft_28 : decode cX7_firstDraft 28 = .ok (.putfield 54, 3) := by decide +kernel
theorem dX7_firstDraft_31 : decode cX7_firstDraft 31 = .ok (.aload_n 0, 1) := by decide +kernel
theorem dX7_firstDraft_32 : decode cX7_firstDraft 32 = .ok (.iconst 0, 1) := by decide +kernel
theorem dX7_firstDraft_33 : decode cX7_firstDraft 33 = .ok (.putfield 57, 3) := by decide +kernel
theorem dX7_firstDraft_36 : decode cX7_firstDraft 36 = .ok (.aload_n 0, 1) := by decide +kernel
theorem dX7_firstDraft_37 : decode cX7_firstDraft 37 = .ok (.iconst 0, 1) := by decide +kernel
theorem dX7_firstDraft_38 : decode cX7_firstDraft 38 = .ok (.putfield 61, 3) := by decide +kernel
theorem dX7_firstDraft_41 : decode cX7_firstDraft 41 = .ok (.aload_n 0, 1) := by decide +kernel
theorem dX7_firstDraft_42 : decode cX7_firstDraft 42 = .ok (.iconst 0, 1) := by decide +kernel
theorem dX7_firstDraft_43 : decode cX7_firstDraft 43 = .ok (.putfield 64, 3) := by decide +kernel
theorem dX7_firstDraft_46 : decode cX7_firstDraft 46 = .ok (.return_, 1) := by decide +kernel
theorem dX7_keepDraft_0 : decode cX7_keepDraft 0 = .ok (.iconst 0, 1) := by decide +kernel
theorem dX7_keepDraft_1 : decode cX7_keepDraft 1 = .ok (.istore_n 1, 1) := by decide +kernel
theorem dX7_keepDraft_2 : decode cX7_keepDraft 2 = .ok (.iload_n 1, 1) := by decide +kernel
theorem dX7_keepDraft_3 : decode cX7_keepDraft 3 = .ok (.bipush 57, 2) := by decide +kernel
theorem dX7_keepDraft_5 : decode cX7_keepDraft 5 = .ok (.if_icmp .ge 21, 3) := by decide +kernel
theorem dX7_keepDraft_8 : decode cX7_keepDraft 8 = .ok (.aload_n 0, 1) := by decide +kernel
theorem dX7_keepDraft_9 : decode cX7_keepDraft 9 = .ok (.getfield 7, 3) := by decide +kernel
theorem dX7_keepDraft_12 : decode cX7_keepDraft 12 = .ok (.iload_n 1, 1) := by decide +kernel
theorem dX7_keepDraft_13 : decode cX7_keepDraft 13 = .ok (.aload_n 0, 1) := by decide +kernel
theorem dX7_keepDraft_14 : decode cX7_keepDraft 14 = .ok (.getfield 20, 3) := by decide +kernel
theorem dX7_keepDraft_17 : decode cX7_keepDraft 17 = .ok (.iload_n 1, 1) := by decide +kernel
theorem dX7_keepDraft_18 : decode cX7_keepDraft 18 = .ok (.iaload, 1) := by decide +kernel
theorem dX7_keepDraft_19 : decode cX7_keepDraft 19 = .ok (.iastore, 1) := by decide +kernel
theorem dX7_keepDraft_20 : decode cX7_keepDraft 20 = .ok (.iinc 1 1, 3) := by decide +kernel
theorem dX7_keepDraft_23 : decode cX7_keepDraft 23 = .ok (.goto (-21), 3) := by decide +kernel
theorem dX7_keepDraft_26 : decode cX7_keepDraft 26 = .ok (.aload_n 0, 1) := by decide +kernel
theorem dX7_keepDraft_27 : decode cX7_keepDraft 27 = .ok (.aload_n 0, 1) := by decide +kernel
theorem dX7_keepDraft_28 : decode cX7_keepDraft 28 = .ok (.getfield 50, 3) := by decide +kernel
theorem dX7_keepDraft_31 : decode cX7_keepDraft 31 = .ok (.putfield 67, 3) := by decide +kernel
theorem dX7_keepDraft_34 : decode cX7_keepDraft 34 = .ok (.aload_n 0, 1) := by decide +kernel
theorem dX7_keepDraft_35 : decode cX7_keepDraft 35 = .ok (.getfield 16, 3) := by decide +kernel
theorem dX7_keepDraft_38 : decode cX7_keepDraft 38 = .ok (.iconst 0, 1) := by decide +kernel
theorem dX7_keepDraft_39 : decode cX7_keepDraft 39 = .ok (.iconst 0, 1) := by decide +kernel
theorem dX7_keepDraft_40 : decode cX7_keepDraft 40 = .ok (.bastore, 1) := by decide +kernel
theorem dX7_keepDraft_41 : decode cX7_keepDraft 41 = .ok (.aload_n 0, 1) := by decide +kernel
theorem dX7_keepDraft_42 : decode cX7_keepDraft 42 = .ok (.getfield 16, 3) := by decide +kernel
theorem dX7_keepDraft_45 : decode cX7_keepDraft 45 = .ok (.iconst 1, 1) := by decide +kernel
theorem dX7_keepDraft_46 : decode cX7_keepDraft 46 = .ok (.iconst 0, 1) := by decide +kernel
theorem dX7_keepDraft_47 : decode cX7_keepDraft 47 = .ok (.bastore, 1) := by decide +kernel
theorem dX7_keepDraft_48 : decode cX7_keepDraft 48 = .ok (.return_, 1) := by decide +kernel
theorem dX7_feed_0 : decode cX7_feed 0 = .ok (.iload_n 1, 1) := by decide +kernel
theorem dX7_feed_1 : decode cX7_feed 1 = .ok (.i2l, 1) := by decide +kernel
theorem dX7_feed_2 : decode cX7_feed 2 = .ok (.lconst 0, 1) := by decide +kernel
theorem dX7_feed_3 : decode cX7_feed 3 = .ok (.ldc2_w 70, 3) := by decide +kernel
theorem dX7_feed_6 : decode cX7_feed 6 = .ok (.invokestatic 72, 3) := by decide +kernel
theorem dX7_feed_9 : decode cX7_feed 9 = .ok (.ifCond .ne 5, 3) := by decide +kernel
theorem dX7_feed_12 : decode cX7_feed 12 = .ok (.iconst (-1), 1) := by decide +kernel
theorem dX7_feed_13 : decode cX7_feed 13 = .ok (.ireturn, 1) := by decide +kernel
theorem dX7_feed_14 : decode cX7_feed 14 = .ok (.aload_n 0, 1) := by decide +kernel
theorem dX7_feed_15 : decode cX7_feed 15 = .ok (.getfield 76, 3) := by decide +kernel
theorem dX7_feed_18 : decode cX7_feed 18 = .ok (.sipush 160, 3) := by decide +kernel
theorem dX7_feed_21 : decode cX7_feed 21 = .ok (.if_icmp .ne 6, 3) := by decide +kernel
theorem dX7_feed_24 : decode cX7_feed 24 = .ok (.bipush (-3), 2) := by decide +kernel
theorem dX7_feed_26 : decode cX7_feed 26 = .ok (.ireturn, 1) := by decide +kernel
theorem dX7_feed_27 : decode cX7_feed 27 = .ok (.aload_n 0, 1) := by decide +kernel
theorem dX7_feed_28 : decode cX7_feed 28 = .ok (.getfield 23, 3) := by decide +kernel
theorem dX7_feed_31 : decode cX7_feed 31 = .ok (.aload_n 0, 1) := by decide +kernel
theorem dX7_feed_32 : decode cX7_feed 32 = .ok (.getfield 76, 3) := by decide +kernel
theorem dX7_feed_35 : decode cX7_feed 35 = .ok (.iload_n 1, 1) := by decide +kernel
theorem dX7_feed_36 : decode cX7_feed 36 = .ok (.iastore, 1) := by decide +kernel
theorem dX7_feed_37 : decode cX7_feed 37 = .ok (.aload_n 0, 1) := by decide +kernel
theorem dX7_feed_38 : decode cX7_feed 38 = .ok (.dup, 1) := by decide +kernel
theorem dX7_feed_39 : decode cX7_feed 39 = .ok (.getfield 76, 3) := by decide +kernel
theorem dX7_feed_42 : decode cX7_feed 42 = .ok (.iconst 1, 1) := by decide +kernel
theorem dX7_feed_43 : decode cX7_feed 43 = .ok (.iadd, 1) := by decide +kernel
theorem dX7_feed_44 : decode cX7_feed 44 = .ok (.putfield 76, 3) := by decide +kernel
theorem dX7_feed_47 : decode cX7_feed 47 = .ok (.aload_n 0, 1) := by decide +kernel
theorem dX7_feed_48 : decode cX7_feed 48 = .ok (.getfield 76, 3) := by decide +kernel
theorem dX7_feed_51 : decode cX7_feed 51 = .ok (.ireturn, 1) := by decide +kernel
theorem dX7_end_0 : decode cX7_end 0 = .ok (.iload_n 1, 1) := by decide +kernel
theorem dX7_end_1 : decode cX7_end 1 = .ok (.i2l, 1) := by decide +kernel
theorem dX7_end_2 : decode cX7_end 2 = .ok (.lconst 0, 1) := by decide +kernel
theorem dX7_end_3 : decode cX7_end 3 = .ok (.aload_n 0, 1) := by decide +kernel
theorem dX7_end_4 : decode cX7_end 4 = .ok (.getfield 76, 3) := by decide +kernel
theorem dX7_end_7 : decode cX7_end 7 = .ok (.i2l, 1) := by decide +kernel
theorem dX7_end_8 : decode cX7_end 8 = .ok (.invokestatic 72, 3) := by decide +kernel
theorem dX7_end_11 : decode cX7_end 11 = .ok (.ifCond .ne 5, 3) := by decide +kernel
theorem dX7_end_14 : decode cX7_end 14 = .ok (.iconst (-1), 1) := by decide +kernel
theorem dX7_end_15 : decode cX7_end 15 = .ok (.ireturn, 1) := by decide +kernel
theorem dX7_end_16 : decode cX7_end 16 = .ok (.aload_n 0, 1) := by decide +kernel
theorem dX7_end_17 : decode cX7_end 17 = .ok (.getfield 76, 3) := by decide +kernel
theorem dX7_end_20 : decode cX7_end 20 = .ok (.istore_n 2, 1) := by decide +kernel
theorem dX7_end_21 : decode cX7_end 21 = .ok (.aload_n 0, 1) := by decide +kernel
theorem dX7_end_22 : decode cX7_end 22 = .ok (.iload_n 1, 1) := by decide +kernel
theorem dX7_end_23 : decode cX7_end 23 = .ok (.putfield 76, 3) := by decide +kernel
theorem dX7_end_26 : decode cX7_end 26 = .ok (.iload_n 2, 1) := by decide +kernel
theorem dX7_end_27 : decode cX7_end 27 = .ok (.ireturn, 1) := by decide +kernel
theorem dX7_requires_0 : decode cX7_requires 0 = .ok (.iload_n 1, 1) := by decide +kernel
theorem dX7_requires_1 : decode cX7_requires 1 = .ok (.ifCond .ne 23, 3) := by decide +kernel
theorem dX7_requires_4 : decode cX7_requires 4 = .ok (.aload_n 0, 1) := by decide +kernel
theorem dX7_requires_5 : decode cX7_requires 5 = .ok (.getfield 79, 3) := by decide +kernel
theorem dX7_requires_8 : decode cX7_requires 8 = .ok (.ifCond .ne 16, 3) := by decide +kernel
theorem dX7_requires_11 : decode cX7_requires 11 = .ok (.aload_n 0, 1) := by decide +kernel
theorem dX7_requires_12 : decode cX7_requires 12 = .ok (.iload_n 2, 1) := by decide +kernel
theorem dX7_requires_13 : decode cX7_requires 13 = .ok (.putfield 79, 3) := by decide +kernel
theorem dX7_requires_16 : decode cX7_requires 16 = .ok (.aload_n 0, 1) := by decide +kernel
theorem dX7_requires_17 : decode cX7_requires 17 = .ok (.aload_n 0, 1) := by decide +kernel
theorem dX7_requires_18 : decode cX7_requires 18 = .ok (.getfield 82, 3) := by decide +kernel
theorem dX7_requires_21 : decode cX7_requires 21 = .ok (.putfield 85, 3) := by decide +kernel
theorem dX7_requires_24 : decode cX7_requires 24 = .ok (.return_, 1) := by decide +kernel
theorem dX7_byteAt_0 : decode cX7_byteAt 0 = .ok (.iload_n 1, 1) := by decide +kernel
theorem dX7_byteAt_1 : decode cX7_byteAt 1 = .ok (.aload_n 0, 1) := by decide +kernel
theorem dX7_byteAt_2 : decode cX7_byteAt 2 = .ok (.getfield 76, 3) := by decide +kernel
theorem dX7_byteAt_5 : decode cX7_byteAt 5 = .ok (.if_icmp .ge 12, 3) := by decide +kernel
theorem dX7_byteAt_8 : decode cX7_byteAt 8 = .ok (.aload_n 0, 1) := by decide +kernel
theorem dX7_byteAt_9 : decode cX7_byteAt 9 = .ok (.getfield 23, 3) := by decide +kernel
theorem dX7_byteAt_12 : decode cX7_byteAt 12 = .ok (.iload_n 1, 1) := by decide +kernel
theorem dX7_byteAt_13 : decode cX7_byteAt 13 = .ok (.iaload, 1) := by decide +kernel
theorem dX7_byteAt_14 : decode cX7_byteAt 14 = .ok (.goto 4, 3) := by decide +kernel
theorem dX7_byteAt_17 : decode cX7_byteAt 17 = .ok (.iconst (-1), 1) := by decide +kernel
theorem dX7_byteAt_18 : decode cX7_byteAt 18 = .ok (.ireturn, 1) := by decide +kernel
theorem dX7_is_0 : decode cX7_is 0 = .ok (.aload_n 0, 1) := by decide +kernel
theorem dX7_is_1 : decode cX7_is 1 = .ok (.getfield 88, 3) := by decide +kernel
theorem dX7_is_4 : decode cX7_is 4 = .ok (.aload_n 0, 1) := by decide +kernel
theorem dX7_is_5 : decode cX7_is 5 = .ok (.getfield 82, 3) := by decide +kernel
theorem dX7_is_8 : decode cX7_is 8 = .ok (.isub, 1) := by decide +kernel
theorem dX7_is_9 : decode cX7_is 9 = .ok (.iload_n 1, 1) := by decide +kernel
theorem dX7_is_10 : decode cX7_is 10 = .ok (.if_icmp .ne 48, 3) := by decide +kernel
theorem dX7_is_13 : decode cX7_is 13 = .ok (.aload_n 0, 1) := by decide +kernel
theorem dX7_is_14 : decode cX7_is 14 = .ok (.aload_n 0, 1) := by decide +kernel
theorem dX7_is_15 : decode cX7_is 15 = .ok (.getfield 82, 3) := by decide +kernel
theorem dX7_is_18 : decode cX7_is 18 = .ok (.invokevirtual 91, 3) := by decide +kernel
theorem dX7_is_21 : decode cX7_is 21 = .ok (.iload_n 2, 1) := by decide +kernel
theorem dX7_is_22 : decode cX7_is 22 = .ok (.if_icmp .ne 36, 3) := by decide +kernel
theorem dX7_is_25 : decode cX7_is 25 = .ok (.aload_n 0, 1) := by decide +kernel
theorem dX7_is_26 : decode cX7_is 26 = .ok (.aload_n 0, 1) := by decide +kernel
theorem dX7_is_27 : decode cX7_is 27 = .ok (.getfield 82, 3) := by decide +kernel
theorem dX7_is_30 : decode cX7_is 30 = .ok (.iconst 1, 1) := by decide +kernel
theorem dX7_is_31 : decode cX7_is 31 = .ok (.iadd, 1) := by decide +kernel
theorem dX7_is_32 : decode cX7_is 32 = .ok (.invokevirtual 91, 3) := by decide +kernel
theorem dX7_is_35 : decode cX7_is 35 = .ok (.iload_n 3, 1) := by decide +kernel
theorem dX7_is_36 : decode cX7_is 36 = .ok (.if_icmp .ne 22, 3) := by decide +kernel
theorem dX7_is_39 : decode cX7_is 39 = .ok (.aload_n 0, 1) := by decide +kernel
theorem dX7_is_40 : decode cX7_is 40 = .ok (.aload_n 0, 1) := by decide +kernel
theorem dX7_is_41 : decode cX7_is 41 = .ok (.getfield 82, 3) := by decide +kernel
theorem dX7_is_44 : decode cX7_is 44 = .ok (.iconst 2, 1) := by decide +kernel
theorem dX7_is_45 : decode cX7_is 45 = .ok (.iadd, 1) := by decide +kernel
theorem dX7_is_46 : decode cX7_is 46 = .ok (.invokevirtual 91, 3) := by decide +kernel
theorem dX7_is_49 : decode cX7_is 49 = .ok (.iload 4, 2) := by decide +kernel
theorem dX7_is_51 : decode cX7_is 51 = .ok (.if_icmp .ne 7, 3) := by decide +kernel
theorem dX7_is_54 : decode cX7_is 54 = .ok (.iconst 1, 1) := by decide +kernel
theorem dX7_is_55 : decode cX7_is 55 = .ok (.goto 4, 3) := by decide +kernel
theorem dX7_is_58 : decode cX7_is 58 = .ok (.iconst 0, 1) := by decide +kernel
theorem dX7_is_59 : decode cX7_is 59 = .ok (.ireturn, 1) := by decide +kernel
theorem dX7_endsIn_0 : decode cX7_endsIn 0 = .ok (.aload_n 0, 1) := by decide +kernel
theorem dX7_endsIn_1 : decode cX7_endsIn 1 = .ok (.aload_n 0, 1) := by decide +kernel
theorem dX7_endsIn_2 : decode cX7_endsIn 2 = .ok (.getfield 82, 3) := by decide +kernel
theorem dX7_endsIn_5 : decode cX7_endsIn 5 = .ok (.iconst 3, 1) := by decide +kernel
theorem dX7_endsIn_6 : decode cX7_endsIn 6 = .ok (.iadd, 1) := by decide +kernel
theorem dX7_endsIn_7 : decode cX7_endsIn 7 = .ok (.invokevirtual 91, 3) := by decide +kernel
theorem dX7_endsIn_10 : decode cX7_endsIn 10 = .ok (.iload_n 1, 1) := by decide +kernel
theorem dX7_endsIn_11 : decode cX7_endsIn 11 = .ok (.if_icmp .ne 43, 3) := by decide +kernel
theorem dX7_endsIn_14 : decode cX7_endsIn 14 = .ok (.iload_n 2, 1) := by decide +kernel
theorem dX7_endsIn_15 : decode cX7_endsIn 15 = .ok (.ifCond .eq 17, 3) := by decide +kernel
theorem dX7_endsIn_18 : decode cX7_endsIn 18 = .ok (.aload_n 0, 1) := by decide +kernel
theorem dX7_endsIn_19 : decode cX7_endsIn 19 = .ok (.aload_n 0, 1) := by decide +kernel
theorem dX7_endsIn_20 : decode cX7_endsIn 20 = .ok (.getfield 82, 3) := by decide +kernel
theorem dX7_endsIn_23 : decode cX7_endsIn 23 = .ok (.iconst 4, 1) := by decide +kernel
theorem dX7_endsIn_24 : decode cX7_endsIn 24 = .ok (.iadd, 1) := by decide +kernel
theorem dX7_endsIn_25 : decode cX7_endsIn 25 = .ok (.invokevirtual 91, 3) := by decide +kernel
theorem dX7_endsIn_28 : decode cX7_endsIn 28 = .ok (.iload_n 2, 1) := by decide +kernel
theorem dX7_endsIn_29 : decode cX7_endsIn 29 = .ok (.if_icmp .ne 25, 3) := by decide +kernel
theorem dX7_endsIn_32 : decode cX7_endsIn 32 = .ok (.iload_n 3, 1) := by decide +kernel
theorem dX7_endsIn_33 : decode cX7_endsIn 33 = .ok (.ifCond .eq 17, 3) := by decide +kernel
theorem dX7_endsIn_36 : decode cX7_endsIn 36 = .ok (.aload_n 0, 1) := by decide +kernel
theorem dX7_endsIn_37 : decode cX7_endsIn 37 = .ok (.aload_n 0, 1) := by decide +kernel
theorem dX7_endsIn_38 : decode cX7_endsIn 38 = .ok (.getfield 82, 3) := by decide +kernel
theorem dX7_endsIn_41 : decode cX7_endsIn 41 = .ok (.iconst 5, 1) := by decide +kernel
theorem dX7_endsIn_42 : decode cX7_endsIn 42 = .ok (.iadd, 1) := by decide +kernel
theorem dX7_endsIn_43 : decode cX7_endsIn 43 = .ok (.invokevirtual 91, 3) := by decide +kernel
theorem dX7_endsIn_46 : decode cX7_endsIn 46 = .ok (.iload_n 3, 1) := by decide +kernel
theorem dX7_endsIn_47 : decode cX7_endsIn 47 = .ok (.if_icmp .ne 7, 3) := by decide +kernel
theorem dX7_endsIn_50 : decode cX7_endsIn 50 = .ok (.iconst 1, 1) := by decide +kernel
theorem dX7_endsIn_51 : decode cX7_endsIn 51 = .ok (.goto 4, 3) := by decide +kernel
theorem dX7_endsIn_54 : decode cX7_endsIn 54 = .ok (.iconst 0, 1) := by decide +kernel
theorem dX7_endsIn_55 : decode cX7_endsIn 55 = .ok (.ireturn, 1) := by decide +kernel
theorem dX7_lineNow_0 : decode cX7_lineNow 0 = .ok (.aload_n 0, 1) := by decide +kernel
theorem dX7_lineNow_1 : decode cX7_lineNow 1 = .ok (.bipush 6, 2) := by decide +kernel
theorem dX7_lineNow_3 : decode cX7_lineNow 3 = .ok (.bipush 115, 2) := by decide +kernel
theorem dX7_lineNow_5 : decode cX7_lineNow 5 = .ok (.bipush 105, 2) := by decide +kernel
theorem dX7_lineNow_7 : decode cX7_lineNow 7 = .ok (.bipush 103, 2) := by decide +kernel
theorem dX7_lineNow_9 : decode cX7_lineNow 9 = .ok (.invokevirtual 95, 3) := by decide +kernel
theorem dX7_lineNow_12 : decode cX7_lineNow 12 = .ok (.ifCond .eq 18, 3) := by decide +kernel
theorem dX7_lineNow_15 : decode cX7_lineNow 15 = .ok (.aload_n 0, 1) := by decide +kernel
theorem dX7_lineNow_16 : decode cX7_lineNow 16 = .ok (.bipush 110, 2) := by decide +kernel
theorem dX7_lineNow_18 : decode cX7_lineNow 18 = .ok (.bipush 101, 2) := by decide +kernel
theorem dX7_lineNow_20 : decode cX7_lineNow 20 = .ok (.bipush 114, 2) := by decide +kernel
theorem dX7_lineNow_22 : decode cX7_lineNow 22 = .ok (.invokevirtual 99, 3) := by decide +kernel
theorem dX7_lineNow_25 : decode cX7_lineNow 25 = .ok (.ifCond .eq 5, 3) := by decide +kernel
theorem dX7_lineNow_28 : decode cX7_lineNow 28 = .ok (.iconst 0, 1) := by decide +kernel
theorem dX7_lineNow_29 : decode cX7_lineNow 29 = .ok (.ireturn, 1) := by decide +kernel
theorem dX7_lineNow_30 : decode cX7_lineNow 30 = .ok (.aload_n 0, 1) := by decide +kernel
theorem dX7_lineNow_31 : decode cX7_lineNow 31 = .ok (.bipush 6, 2) := by decide +kernel
theorem dX7_lineNow_33 : decode cX7_lineNow 33 = .ok (.bipush 100, 2) := by decide +kernel
theorem dX7_lineNow_35 : decode cX7_lineNow 35 = .ok (.bipush 97, 2) := by decide +kernel
theorem dX7_lineNow_37 : decode cX7_lineNow 37 = .ok (.bipush 110, 2) := by decide +kernel
theorem dX7_lineNow_39 : decode cX7_lineNow 39 = .ok (.invokevirtual 95, 3) := by decide +kernel
theorem dX7_lineNow_42 : decode cX7_lineNow 42 = .ok (.ifCond .eq 18, 3) := by decide +kernel
theorem dX7_lineNow_45 : decode cX7_lineNow 45 = .ok (.aload_n 0, 1) := by decide +kernel
theorem dX7_lineNow_46 : decode cX7_lineNow 46 = .ok (.bipush 99, 2) := by decide +kernel
theorem dX7_lineNow_48 : decode cX7_lineNow 48 = .ok (.bipush 101, 2) := by decide +kernel
theorem dX7_lineNow_50 : decode cX7_lineNow 50 = .ok (.bipush 114, 2) := by decide +kernel
theorem dX7_lineNow_52 : decode cX7_lineNow 52 = .ok (.invokevirtual 99, 3) := by decide +kernel
theorem dX7_lineNow_55 : decode cX7_lineNow 55 = .ok (.ifCond .eq 5, 3) := by decide +kernel
theorem dX7_lineNow_58 : decode cX7_lineNow 58 = .ok (.iconst 1, 1) := by decide +kernel
theorem dX7_lineNow_59 : decode cX7_lineNow 59 = .ok (.ireturn, 1) := by decide +kernel
theorem dX7_lineNow_60 : decode cX7_lineNow 60 = .ok (.aload_n 0, 1) := by decide +kernel
theorem dX7_lineNow_61 : decode cX7_lineNow 61 = .ok (.iconst 3, 1) := by decide +kernel
theorem dX7_lineNow_62 : decode cX7_lineNow 62 = .ok (.bipush 115, 2) := by decide +kernel
theorem dX7_lineNow_64 : decode cX7_lineNow 64 = .ok (.bipush 104, 2) := by decide +kernel
theorem dX7_lineNow_66 : decode cX7_lineNow 66 = .ok (.bipush 121, 2) := by decide +kernel
theorem dX7_lineNow_68 : decode cX7_lineNow 68 = .ok (.invokevirtual 95, 3) := by decide +kernel
theorem dX7_lineNow_71 : decode cX7_lineNow 71 = .ok (.ifCond .eq 5, 3) := by decide +kernel
theorem dX7_lineNow_74 : decode cX7_lineNow 74 = .ok (.iconst 2, 1) := by decide +kernel
theorem dX7_lineNow_75 : decode cX7_lineNow 75 = .ok (.ireturn, 1) := by decide +kernel
theorem dX7_lineNow_76 : decode cX7_lineNow 76 = .ok (.aload_n 0, 1) := by decide +kernel
theorem dX7_lineNow_77 : decode cX7_lineNow 77 = .ok (.iconst 4, 1) := by decide +kernel
theorem dX7_lineNow_78 : decode cX7_lineNow 78 = .ok (.bipush 98, 2) := by decide +kernel
theorem dX7_lineNow_80 : decode cX7_lineNow 80 = .ok (.bipush 111, 2) := by decide +kernel
theorem dX7_lineNow_82 : decode cX7_lineNow 82 = .ok (.bipush 108, 2) := by decide +kernel
theorem dX7_lineNow_84 : decode cX7_lineNow 84 = .ok (.invokevirtual 95, 3) := by decide +kernel
theorem dX7_lineNow_87 : decode cX7_lineNow 87 = .ok (.ifCond .eq 16, 3) := by decide +kernel
theorem dX7_lineNow_90 : decode cX7_lineNow 90 = .ok (.aload_n 0, 1) := by decide +kernel
theorem dX7_lineNow_91 : decode cX7_lineNow 91 = .ok (.bipush 100, 2) := by decide +kernel
theorem dX7_lineNow_93 : decode cX7_lineNow 93 = .ok (.iconst 0, 1) := by decide +kernel
theorem dX7_lineNow_94 : decode cX7_lineNow 94 = .ok (.iconst 0, 1) := by decide +kernel
theorem dX7_lineNow_95 : decode cX7_lineNow 95 = .ok (.invokevirtual 99, 3) := by decide +kernel
theorem dX7_lineNow_98 : decode cX7_lineNow 98 = .ok (.ifCond .eq 5, 3) := by decide +kernel
theorem dX7_lineNow_101 : decode cX7_lineNow 101 = .ok (.iconst 3, 1) := by decide +kernel
theorem dX7_lineNow_102 : decode cX7_lineNow 102 = .ok (.ireturn, 1) := by decide +kernel
theorem dX7_lineNow_103 : decode cX7_lineNow 103 = .ok (.aload_n 0, 1) := by decide +kernel
theorem dX7_lineNow_104 : decode cX7_lineNow 104 = .ok (.iconst 4, 1) := by decide +kernel
theorem dX7_lineNow_105 : decode cX7_lineNow 105 = .ok (.bipush 102, 2) := by decide +kernel
theorem dX7_lineNow_107 : decode cX7_lineNow 107 = .ok (.bipush 97, 2) := by decide +kernel
theorem dX7_lineNow_109 : decode cX7_lineNow 109 = .ok (.bipush 109, 2) := by decide +kernel
theorem dX7_lineNow_111 : decode cX7_lineNow 111 = .ok (.invokevirtual 95, 3) := by decide +kernel
theorem dX7_lineNow_114 : decode cX7_lineNow 114 = .ok (.ifCond .eq 16, 3) := by decide +kernel
theorem dX7_lineNow_117 : decode cX7_lineNow 117 = .ok (.aload_n 0, 1) := by decide +kernel
theorem dX7_lineNow_118 : decode cX7_lineNow 118 = .ok (.bipush 101, 2) := by decide +kernel
theorem dX7_lineNow_120 : decode cX7_lineNow 120 = .ok (.iconst 0, 1) := by decide +kernel
theorem dX7_lineNow_121 : decode cX7_lineNow 121 = .ok (.iconst 0, 1) := by decide +kernel
theorem dX7_lineNow_122 : decode cX7_lineNow 122 = .ok (.invokevirtual 99, 3) := by decide +kernel
theorem dX7_lineNow_125 : decode cX7_lineNow 125 = .ok (.ifCond .eq 5, 3) := by decide +kernel
theorem dX7_lineNow_128 : decode cX7_lineNow 128 = .ok (.iconst 4, 1) := by decide +kernel
theorem dX7_lineNow_129 : decode cX7_lineNow 129 = .ok (.ireturn, 1) := by decide +kernel
theorem dX7_lineNow_130 : decode cX7_lineNow 130 = .ok (.aload_n 0, 1) := by decide +kernel
theorem dX7_lineNow_131 : decode cX7_lineNow 131 = .ok (.iconst 5, 1) := by decide +kernel
theorem dX7_lineNow_132 : decode cX7_lineNow 132 = .ok (.bipush 114, 2) := by decide +kernel
theorem dX7_lineNow_134 : decode cX7_lineNow 134 = .ok (.bipush 111, 2) := by decide +kernel
theorem dX7_lineNow_136 : decode cX7_lineNow 136 = .ok (.bipush 117, 2) := by decide +kernel
theorem dX7_lineNow_138 : decode cX7_lineNow 138 = .ok (.invokevirtual 95, 3) := by decide +kernel
theorem dX7_lineNow_141 : decode cX7_lineNow 141 = .ok (.ifCond .eq 19, 3) := by decide +kernel
theorem dX7_lineNow_144 : decode cX7_lineNow 144 = .ok (.aload_n 0, 1) := by decide +kernel
theorem dX7_lineNow_145 : decode cX7_lineNow 145 = .ok (.bipush 116, 2) := by decide +kernel
theorem dX7_lineNow_147 : decode cX7_lineNow 147 = .ok (.bipush 101, 2) := by decide +kernel
theorem dX7_lineNow_149 : decode cX7_lineNow 149 = .ok (.iconst 0, 1) := by decide +kernel
theorem dX7_lineNow_150 : decode cX7_lineNow 150 = .ok (.invokevirtual 99, 3) := by decide +kernel
theorem dX7_lineNow_153 : decode cX7_lineNow 153 = .ok (.ifCond .eq 7, 3) := by decide +kernel
theorem dX7_lineNow_156 : decode cX7_lineNow 156 = .ok (.iconst 5, 1) := by decide +kernel
theorem dX7_lineNow_157 : decode cX7_lineNow 157 = .ok (.goto 24, 3) := by decide +kernel
theorem dX7_lineNow_160 : decode cX7_lineNow 160 = .ok (.aload_n 0, 1) := by decide +kernel
theorem dX7_lineNow_161 : decode cX7_lineNow 161 = .ok (.iconst 3, 1) := by decide +kernel
theorem dX7_lineNow_162 : decode cX7_lineNow 162 = .ok (.bipush 109, 2) := by decide +kernel
theorem dX7_lineNow_164 : decode cX7_lineNow 164 = .ok (.bipush 97, 2) := by decide +kernel
theorem dX7_lineNow_166 : decode cX7_lineNow 166 = .ok (.bipush 110, 2) := by decide +kernel
theorem dX7_lineNow_168 : decode cX7_lineNow 168 = .ok (.invokevirtual 95, 3) := by decide +kernel
theorem dX7_lineNow_171 : decode cX7_lineNow 171 = .ok (.ifCond .eq 8, 3) := by decide +kernel
theorem dX7_lineNow_174 : decode cX7_lineNow 174 = .ok (.bipush 6, 2) := by decide +kernel
theorem dX7_lineNow_176 : decode cX7_lineNow 176 = .ok (.goto 5, 3) := by decide +kernel
theorem dX7_lineNow_179 : decode cX7_lineNow 179 = .ok (.bipush (-4), 2) := by decide +kernel
theorem dX7_lineNow_181 : decode cX7_lineNow 181 = .ok (.ireturn, 1) := by decide +kernel
theorem dX7_reads_0 : decode cX7_reads 0 = .ok (.aload_n 0, 1) := by decide +kernel
theorem dX7_reads_1 : decode cX7_reads 1 = .ok (.getfield 79, 3) := by decide +kernel
theorem dX7_reads_4 : decode cX7_reads 4 = .ok (.ifCond .le 4, 3) := by decide +kernel
theorem dX7_reads_7 : decode cX7_reads 7 = .ok (.return_, 1) := by decide +kernel
theorem dX7_reads_8 : decode cX7_reads 8 = .ok (.aload_n 0, 1) := by decide +kernel
theorem dX7_reads_9 : decode cX7_reads 9 = .ok (.aload_n 0, 1) := by decide +kernel
theorem dX7_reads_10 : decode cX7_reads 10 = .ok (.getfield 88, 3) := by decide +kernel
theorem dX7_reads_13 : decode cX7_reads 13 = .ok (.invokevirtual 91, 3) := by decide +kernel
theorem dX7_reads_16 : decode cX7_reads 16 = .ok (.bipush 32, 2) := by decide +kernel
theorem dX7_reads_18 : decode cX7_reads 18 = .ok (.if_icmp .ne 16, 3) := by decide +kernel
theorem dX7_reads_21 : decode cX7_reads 21 = .ok (.aload_n 0, 1) := by decide +kernel
theorem dX7_reads_22 : decode cX7_reads 22 = .ok (.dup, 1) := by decide +kernel
theorem dX7_reads_23 : decode cX7_reads 23 = .ok (.getfield 88, 3) := by decide +kernel
theorem dX7_reads_26 : decode cX7_reads 26 = .ok (.iconst 1, 1) := by decide +kernel
theorem dX7_reads_27 : decode cX7_reads 27 = .ok (.iadd, 1) := by decide +kernel
theorem dX7_reads_28 : decode cX7_reads 28 = .ok (.putfield 88, 3) := by decide +kernel
theorem dX7_reads_31 : decode cX7_reads 31 = .ok (.goto (-23), 3) := by decide +kernel
theorem dX7_reads_34 : decode cX7_reads 34 = .ok (.aload_n 0, 1) := by decide +kernel
theorem dX7_reads_35 : decode cX7_reads 35 = .ok (.aload_n 0, 1) := by decide +kernel
theorem dX7_reads_36 : decode cX7_reads 36 = .ok (.getfield 88, 3) := by decide +kernel
theorem dX7_reads_39 : decode cX7_reads 39 = .ok (.putfield 82, 3) := by decide +kernel
theorem dX7_reads_42 : decode cX7_reads 42 = .ok (.aload_n 0, 1) := by decide +kernel
theorem dX7_reads_43 : decode cX7_reads 43 = .ok (.aload_n 0, 1) := by decide +kernel
theorem dX7_reads_44 : decode cX7_reads 44 = .ok (.getfield 88, 3) := by decide +kernel
theorem dX7_reads_47 : decode cX7_reads 47 = .ok (.invokevirtual 91, 3) := by decide +kernel
theorem dX7_reads_50 : decode cX7_reads 50 = .ok (.istore_n 1, 1) := by decide +kernel
theorem dX7_reads_51 : decode cX7_reads 51 = .ok (.iload_n 1, 1) := by decide +kernel
theorem dX7_reads_52 : decode cX7_reads 52 = .ok (.ifCond .ge 11, 3) := by decide +kernel
theorem dX7_reads_55 : decode cX7_reads 55 = .ok (.aload_n 0, 1) := by decide +kernel
theorem dX7_reads_56 : decode cX7_reads 56 = .ok (.iconst 0, 1) := by decide +kernel
theorem dX7_reads_57 : decode cX7_reads 57 = .ok (.putfield 103, 3) := by decide +kernel
theorem dX7_reads_60 : decode cX7_reads 60 = .ok (.goto 214, 3) := by decide +kernel
theorem dX7_reads_63 : decode cX7_reads 63 = .ok (.iload_n 1, 1) := by decide +kernel
theorem dX7_reads_64 : decode cX7_reads 64 = .ok (.i2l, 1) := by decide +kernel
theorem dX7_reads_65 : decode cX7_reads 65 = .ok (.ldc2_w 106, 3) := by decide +kernel
theorem dX7_reads_68 : decode cX7_reads 68 = .ok (.ldc2_w 108, 3) := by decide +kernel
theorem dX7_reads_71 : decode cX7_reads 71 = .ok (.invokestatic 72, 3) := by decide +kernel
theorem dX7_reads_74 : decode cX7_reads 74 = .ok (.ifCond .eq 42, 3) := by decide +kernel
theorem dX7_reads_77 : decode cX7_reads 77 = .ok (.aload_n 0, 1) := by decide +kernel
theorem dX7_reads_78 : decode cX7_reads 78 = .ok (.iconst 1, 1) := by decide +kernel
theorem dX7_reads_79 : decode cX7_reads 79 = .ok (.putfield 103, 3) := by decide +kernel
theorem dX7_reads_82 : decode cX7_reads 82 = .ok (.aload_n 0, 1) := by decide +kernel
theorem dX7_reads_83 : decode cX7_reads 83 = .ok (.aload_n 0, 1) := by decide +kernel
theorem dX7_reads_84 : decode cX7_reads 84 = .ok (.getfield 88, 3) := by decide +kernel
theorem dX7_reads_87 : decode cX7_reads 87 = .ok (.invokevirtual 91, 3) := by decide +kernel
theorem dX7_reads_90 : decode cX7_reads 90 = .ok (.i2l, 1) := by decide +kernel
theorem dX7_reads_91 : decode cX7_reads 91 = .ok (.ldc2_w 106, 3) := by decide +kernel
theorem dX7_reads_94 : decode cX7_reads 94 = .ok (.ldc2_w 108, 3) := by decide +kernel
theorem dX7_reads_97 : decode cX7_reads 97 = .ok (.invokestatic 72, 3) := by decide +kernel
theorem dX7_reads_100 : decode cX7_reads 100 = .ok (.ifCond .eq 174, 3) := by decide +kernel
theorem dX7_reads_103 : decode cX7_reads 103 = .ok (.aload_n 0, 1) := by decide +kernel
theorem dX7_reads_104 : decode cX7_reads 104 = .ok (.dup, 1) := by decide +kernel
theorem dX7_reads_105 : decode cX7_reads 105 = .ok (.getfield 88, 3) := by decide +kernel
theorem dX7_reads_108 : decode cX7_reads 108 = .ok (.iconst 1, 1) := by decide +kernel
theorem dX7_reads_109 : decode cX7_reads 109 = .ok (.iadd, 1) := by decide +kernel
theorem dX7_reads_110 : decode cX7_reads 110 = .ok (.putfield 88, 3) := by decide +kernel
theorem dX7_reads_113 : decode cX7_reads 113 = .ok (.goto (-31), 3) := by decide +kernel
theorem dX7_reads_116 : decode cX7_reads 116 = .ok (.iload_n 1, 1) := by decide +kernel
theorem dX7_reads_117 : decode cX7_reads 117 = .ok (.i2l, 1) := by decide +kernel
theorem dX7_reads_118 : decode cX7_reads 118 = .ok (.ldc2_w 110, 3) := by decide +kernel
theorem dX7_reads_121 : decode cX7_reads 121 = .ok (.ldc2_w 112, 3) := by decide +kernel
theorem dX7_reads_124 : decode cX7_reads 124 = .ok (.invokestatic 72, 3) := by decide +kernel
theorem dX7_reads_127 : decode cX7_reads 127 = .ok (.ifCond .eq 116, 3) := by decide +kernel
theorem dX7_reads_130 : decode cX7_reads 130 = .ok (.aload_n 0, 1) := by decide +kernel
theorem dX7_reads_131 : decode cX7_reads 131 = .ok (.iconst 2, 1) := by decide +kernel
theorem dX7_reads_132 : decode cX7_reads 132 = .ok (.putfield 103, 3) := by decide +kernel
theorem dX7_reads_135 : decode cX7_reads 135 = .ok (.aload_n 0, 1) := by decide +kernel
theorem dX7_reads_136 : decode cX7_reads 136 = .ok (.iconst 0, 1) := by decide +kernel
theorem dX7_reads_137 : decode cX7_reads 137 = .ok (.putfield 114, 3) := by decide +kernel
theorem dX7_reads_140 : decode cX7_reads 140 = .ok (.aload_n 0, 1) := by decide +kernel
theorem dX7_reads_141 : decode cX7_reads 141 = .ok (.aload_n 0, 1) := by decide +kernel
theorem dX7_reads_142 : decode cX7_reads 142 = .ok (.getfield 88, 3) := by decide +kernel
theorem dX7_reads_145 : decode cX7_reads 145 = .ok (.invokevirtual 91, 3) := by decide +kernel
theorem dX7_reads_148 : decode cX7_reads 148 = .ok (.i2l, 1) := by decide +kernel
theorem dX7_reads_149 : decode cX7_reads 149 = .ok (.ldc2_w 110, 3) := by decide +kernel
theorem dX7_reads_152 : decode cX7_reads 152 = .ok (.ldc2_w 112, 3) := by decide +kernel
theorem dX7_reads_155 : decode cX7_reads 155 = .ok (.invokestatic 72, 3) := by decide +kernel
theorem dX7_reads_158 : decode cX7_reads 158 = .ok (.ifCond .eq 59, 3) := by decide +kernel
theorem dX7_reads_161 : decode cX7_reads 161 = .ok (.aload_n 0, 1) := by decide +kernel
theorem dX7_reads_162 : decode cX7_reads 162 = .ok (.aload_n 0, 1) := by decide +kernel
theorem dX7_reads_163 : decode cX7_reads 163 = .ok (.getfield 88, 3) := by decide +kernel
theorem dX7_reads_166 : decode cX7_reads 166 = .ok (.aload_n 0, 1) := by decide +kernel
theorem dX7_reads_167 : decode cX7_reads 167 = .ok (.getfield 82, 3) := by decide +kernel
theorem dX7_reads_170 : decode cX7_reads 170 = .ok (.isub, 1) := by decide +kernel
theorem dX7_reads_171 : decode cX7_reads 171 = .ok (.iconst 2, 1) := by decide +kernel
theorem dX7_reads_172 : decode cX7_reads 172 = .ok (.if_icmp .ge 25, 3) := by decide +kernel
theorem dX7_reads_175 : decode cX7_reads 175 = .ok (.bipush 10, 2) := by decide +kernel
theorem dX7_reads_177 : decode cX7_reads 177 = .ok (.aload_n 0, 1) := by decide +kernel
theorem dX7_reads_178 : decode cX7_reads 178 = .ok (.getfield 114, 3) := by decide +kernel
theorem dX7_reads_181 : decode cX7_reads 181 = .ok (.imul, 1) := by decide +kernel
theorem dX7_reads_182 : decode cX7_reads 182 = .ok (.aload_n 0, 1) := by decide +kernel
theorem dX7_reads_183 : decode cX7_reads 183 = .ok (.aload_n 0, 1) := by decide +kernel
theorem dX7_reads_184 : decode cX7_reads 184 = .ok (.getfield 88, 3) := by decide +kernel
theorem dX7_reads_187 : decode cX7_reads 187 = .ok (.invokevirtual 91, 3) := by decide +kernel
theorem dX7_reads_190 : decode cX7_reads 190 = .ok (.iadd, 1) := by decide +kernel
theorem dX7_reads_191 : decode cX7_reads 191 = .ok (.bipush 48, 2) := by decide +kernel
theorem dX7_reads_193 : decode cX7_reads 193 = .ok (.isub, 1) := by decide +kernel
theorem dX7_reads_194 : decode cX7_reads 194 = .ok (.goto 7, 3) := by decide +kernel
theorem dX7_reads_197 : decode cX7_reads 197 = .ok (.aload_n 0, 1) := by decide +kernel
theorem dX7_reads_198 : decode cX7_reads 198 = .ok (.getfield 114, 3) := by decide +kernel
theorem dX7_reads_201 : decode cX7_reads 201 = .ok (.putfield 114, 3) := by decide +kernel
theorem dX7_reads_204 : decode cX7_reads 204 = .ok (.aload_n 0, 1) := by decide +kernel
theorem dX7_reads_205 : decode cX7_reads 205 = .ok (.dup, 1) := by decide +kernel
theorem dX7_reads_206 : decode cX7_reads 206 = .ok (.getfield 88, 3) := by decide +kernel
theorem dX7_reads_209 : decode cX7_reads 209 = .ok (.iconst 1, 1) := by decide +kernel
theorem dX7_reads_210 : decode cX7_reads 210 = .ok (.iadd, 1) := by decide +kernel
theorem dX7_reads_211 : decode cX7_reads 211 = .ok (.putfield 88, 3) := by decide +kernel
theorem dX7_reads_214 : decode cX7_reads 214 = .ok (.goto (-74), 3) := by decide +kernel
theorem dX7_reads_217 : decode cX7_reads 217 = .ok (.aload_n 0, 1) := by decide +kernel
theorem dX7_reads_218 : decode cX7_reads 218 = .ok (.aload_n 0, 1) := by decide +kernel
theorem dX7_reads_219 : decode cX7_reads 219 = .ok (.getfield 88, 3) := by decide +kernel
theorem dX7_reads_222 : decode cX7_reads 222 = .ok (.aload_n 0, 1) := by decide +kernel
theorem dX7_reads_223 : decode cX7_reads 223 = .ok (.getfield 82, 3) := by decide +kernel
theorem dX7_reads_226 : decode cX7_reads 226 = .ok (.isub, 1) := by decide +kernel
theorem dX7_reads_227 : decode cX7_reads 227 = .ok (.iconst 2, 1) := by decide +kernel
theorem dX7_reads_228 : decode cX7_reads 228 = .ok (.if_icmp .gt 7, 3) := by decide +kernel
theorem dX7_reads_231 : decode cX7_reads 231 = .ok (.iconst 1, 1) := by decide +kernel
theorem dX7_reads_232 : decode cX7_reads 232 = .ok (.goto 4, 3) := by decide +kernel
theorem dX7_reads_235 : decode cX7_reads 235 = .ok (.iconst 0, 1) := by decide +kernel
theorem dX7_reads_236 : decode cX7_reads 236 = .ok (.iconst 1, 1) := by decide +kernel
theorem dX7_reads_237 : decode cX7_reads 237 = .ok (.invokevirtual 117, 3) := by decide +kernel
theorem dX7_reads_240 : decode cX7_reads 240 = .ok (.goto 34, 3) := by decide +kernel
theorem dX7_reads_243 : decode cX7_reads 243 = .ok (.aload_n 0, 1) := by decide +kernel
theorem dX7_reads_244 : decode cX7_reads 244 = .ok (.iconst 3, 1) := by decide +kernel
theorem dX7_reads_245 : decode cX7_reads 245 = .ok (.putfield 103, 3) := by decide +kernel
theorem dX7_reads_248 : decode cX7_reads 248 = .ok (.aload_n 0, 1) := by decide +kernel
theorem dX7_reads_249 : decode cX7_reads 249 = .ok (.iload_n 1, 1) := by decide +kernel
theorem dX7_reads_250 : decode cX7_reads 250 = .ok (.bipush 59, 2) := by decide +kernel
theorem dX7_reads_252 : decode cX7_reads 252 = .ok (.if_icmp .ne 7, 3) := by decide +kernel
theorem dX7_reads_255 : decode cX7_reads 255 = .ok (.iconst 1, 1) := by decide +kernel
theorem dX7_reads_256 : decode cX7_reads 256 = .ok (.goto 4, 3) := by decide +kernel
theorem dX7_reads_259 : decode cX7_reads 259 = .ok (.iconst 0, 1) := by decide +kernel
theorem dX7_reads_260 : decode cX7_reads 260 = .ok (.iconst 1, 1) := by decide +kernel
theorem dX7_reads_261 : decode cX7_reads 261 = .ok (.invokevirtual 117, 3) := by decide +kernel
theorem dX7_reads_264 : decode cX7_reads 264 = .ok (.aload_n 0, 1) := by decide +kernel
theorem dX7_reads_265 : decode cX7_reads 265 = .ok (.dup, 1) := by decide +kernel
theorem dX7_reads_266 : decode cX7_reads 266 = .ok (.getfield 88, 3) := by decide +kernel
theorem dX7_reads_269 : decode cX7_reads 269 = .ok (.iconst 1, 1) := by decide +kernel
theorem dX7_reads_270 : decode cX7_reads 270 = .ok (.iadd, 1) := by decide +kernel
theorem dX7_reads_271 : decode cX7_reads 271 = .ok (.putfield 88, 3) := by decide +kernel
theorem dX7_reads_274 : decode cX7_reads 274 = .ok (.return_, 1) := by decide +kernel
theorem dX7_looked_0 : decode cX7_looked 0 = .ok (.aload_n 0, 1) := by decide +kernel
theorem dX7_looked_1 : decode cX7_looked 1 = .ok (.getfield 79, 3) := by decide +kernel
theorem dX7_looked_4 : decode cX7_looked 4 = .ok (.ifCond .ne 21, 3) := by decide +kernel
theorem dX7_looked_7 : decode cX7_looked 7 = .ok (.aload_n 0, 1) := by decide +kernel
theorem dX7_looked_8 : decode cX7_looked 8 = .ok (.aload_n 0, 1) := by decide +kernel
theorem dX7_looked_9 : decode cX7_looked 9 = .ok (.getfield 103, 3) := by decide +kernel
theorem dX7_looked_12 : decode cX7_looked 12 = .ok (.iconst 2, 1) := by decide +kernel
theorem dX7_looked_13 : decode cX7_looked 13 = .ok (.if_icmp .ne 7, 3) := by decide +kernel
theorem dX7_looked_16 : decode cX7_looked 16 = .ok (.iconst 1, 1) := by decide +kernel
theorem dX7_looked_17 : decode cX7_looked 17 = .ok (.goto 4, 3) := by decide +kernel
theorem dX7_looked_20 : decode cX7_looked 20 = .ok (.iconst 0, 1) := by decide +kernel
theorem dX7_looked_21 : decode cX7_looked 21 = .ok (.iconst 2, 1) := by decide +kernel
theorem dX7_looked_22 : decode cX7_looked 22 = .ok (.invokevirtual 117, 3) := by decide +kernel
theorem dX7_looked_25 : decode cX7_looked 25 = .ok (.aload_n 0, 1) := by decide +kernel
theorem dX7_looked_26 : decode cX7_looked 26 = .ok (.getfield 79, 3) := by decide +kernel
theorem dX7_looked_29 : decode cX7_looked 29 = .ok (.ifCond .ne 20, 3) := by decide +kernel
theorem dX7_looked_32 : decode cX7_looked 32 = .ok (.aload_n 0, 1) := by decide +kernel
theorem dX7_looked_33 : decode cX7_looked 33 = .ok (.aload_n 0, 1) := by decide +kernel
theorem dX7_looked_34 : decode cX7_looked 34 = .ok (.getfield 114, 3) := by decide +kernel
theorem dX7_looked_37 : decode cX7_looked 37 = .ok (.i2l, 1) := by decide +kernel
theorem dX7_looked_38 : decode cX7_looked 38 = .ok (.iload_n 1, 1) := by decide +kernel
theorem dX7_looked_39 : decode cX7_looked 39 = .ok (.i2l, 1) := by decide +kernel
theorem dX7_looked_40 : decode cX7_looked 40 = .ok (.iload_n 2, 1) := by decide +kernel
theorem dX7_looked_41 : decode cX7_looked 41 = .ok (.i2l, 1) := by decide +kernel
theorem dX7_looked_42 : decode cX7_looked 42 = .ok (.invokestatic 72, 3) := by decide +kernel
theorem dX7_looked_45 : decode cX7_looked 45 = .ok (.iconst 3, 1) := by decide +kernel
theorem dX7_looked_46 : decode cX7_looked 46 = .ok (.invokevirtual 117, 3) := by decide +kernel
theorem dX7_looked_49 : decode cX7_looked 49 = .ok (.aload_n 0, 1) := by decide +kernel
theorem dX7_looked_50 : decode cX7_looked 50 = .ok (.getfield 79, 3) := by decide +kernel
theorem dX7_looked_53 : decode cX7_looked 53 = .ok (.ifCond .ne 10, 3) := by decide +kernel
theorem dX7_looked_56 : decode cX7_looked 56 = .ok (.aload_n 0, 1) := by decide +kernel
theorem dX7_looked_57 : decode cX7_looked 57 = .ok (.getfield 114, 3) := by decide +kernel
theorem dX7_looked_60 : decode cX7_looked 60 = .ok (.goto 4, 3) := by decide +kernel
theorem dX7_looked_63 : decode cX7_looked 63 = .ok (.iconst 0, 1) := by decide +kernel
theorem dX7_looked_64 : decode cX7_looked 64 = .ok (.ireturn, 1) := by decide +kernel
theorem dX7_readNumber_0 : decode cX7_readNumber 0 = .ok (.aload_n 0, 1) := by decide +kernel
theorem dX7_readNumber_1 : decode cX7_readNumber 1 = .ok (.iload_n 1, 1) := by decide +kernel
theorem dX7_readNumber_2 : decode cX7_readNumber 2 = .ok (.iload_n 2, 1) := by decide +kernel
theorem dX7_readNumber_3 : decode cX7_readNumber 3 = .ok (.invokevirtual 121, 3) := by decide +kernel
theorem dX7_readNumber_6 : decode cX7_readNumber 6 = .ok (.istore_n 3, 1) := by decide +kernel
theorem dX7_readNumber_7 : decode cX7_readNumber 7 = .ok (.aload_n 0, 1) := by decide +kernel
theorem dX7_readNumber_8 : decode cX7_readNumber 8 = .ok (.invokevirtual 125, 3) := by decide +kernel
theorem dX7_readNumber_11 : decode cX7_readNumber 11 = .ok (.iload_n 3, 1) := by decide +kernel
theorem dX7_readNumber_12 : decode cX7_readNumber 12 = .ok (.ireturn, 1) := by decide +kernel
theorem dX7_readFames_0 : decode cX7_readFames 0 = .ok (.aload_n 0, 1) := by decide +kernel
theorem dX7_readFames_1 : decode cX7_readFames 1 = .ok (.getfield 79, 3) := by decide +kernel
theorem dX7_readFames_4 : decode cX7_readFames 4 = .ok (.ifCond .ne 66, 3) := by decide +kernel
theorem dX7_readFames_7 : decode cX7_readFames 7 = .ok (.aload_n 0, 1) := by decide +kernel
theorem dX7_readFames_8 : decode cX7_readFames 8 = .ok (.getfield 103, 3) := by decide +kernel
theorem dX7_readFames_11 : decode cX7_readFames 11 = .ok (.iconst 2, 1) := by decide +kernel
theorem dX7_readFames_12 : decode cX7_readFames 12 = .ok (.if_icmp .ne 58, 3) := by decide +kernel
theorem dX7_readFames_15 : decode cX7_readFames 15 = .ok (.aload_n 0, 1) := by decide +kernel
theorem dX7_readFames_16 : decode cX7_readFames 16 = .ok (.aload_n 0, 1) := by decide +kernel
theorem dX7_readFames_17 : decode cX7_readFames 17 = .ok (.getfield 54, 3) := by decide +kernel
theorem dX7_readFames_20 : decode cX7_readFames 20 = .ok (.bipush 12, 2) := by decide +kernel
theorem dX7_readFames_22 : decode cX7_readFames 22 = .ok (.if_icmp .ge 7, 3) := by decide +kernel
theorem dX7_readFames_25 : decode cX7_readFames 25 = .ok (.iconst 1, 1) := by decide +kernel
theorem dX7_readFames_26 : decode cX7_readFames 26 = .ok (.goto 4, 3) := by decide +kernel
theorem dX7_readFames_29 : decode cX7_readFames 29 = .ok (.iconst 0, 1) := by decide +kernel
theorem dX7_readFames_30 : decode cX7_readFames 30 = .ok (.iconst 5, 1) := by decide +kernel
theorem dX7_readFames_31 : decode cX7_readFames 31 = .ok (.invokevirtual 117, 3) := by decide +kernel
theorem dX7_readFames_34 : decode cX7_readFames 34 = .ok (.aload_n 0, 1) := by decide +kernel
theorem dX7_readFames_35 : decode cX7_readFames 35 = .ok (.getfield 79, 3) := by decide +kernel
theorem dX7_readFames_38 : decode cX7_readFames 38 = .ok (.ifCond .ne (-38), 3) := by decide +kernel
theorem dX7_readFames_41 : decode cX7_readFames 41 = .ok (.aload_n 0, 1) := by decide +kernel
theorem dX7_readFames_42 : decode cX7_readFames 42 = .ok (.getfield 20, 3) := by decide +kernel
theorem dX7_readFames_45 : decode cX7_readFames 45 = .ok (.aload_n 0, 1) := by decide +kernel
theorem dX7_readFames_46 : decode cX7_readFames 46 = .ok (.getfield 54, 3) := by decide +kernel
theorem dX7_readFames_49 : decode cX7_readFames 49 = .ok (.aload_n 0, 1) := by decide +kernel
theorem dX7_readFames_50 : decode cX7_readFames 50 = .ok (.iconst 0, 1) := by decide +kernel
theorem dX7_readFames_51 : decode cX7_readFames 51 = .ok (.bipush 9, 2) := by decide +kernel
theorem dX7_readFames_53 : decode cX7_readFames 53 = .ok (.invokevirtual 128, 3) := by decide +kernel
theorem dX7_readFames_56 : decode cX7_readFames 56 = .ok (.iastore, 1) := by decide +kernel
theorem dX7_readFames_57 : decode cX7_readFames 57 = .ok (.aload_n 0, 1) := by decide +kernel
theorem dX7_readFames_58 : decode cX7_readFames 58 = .ok (.dup, 1) := by decide +kernel
theorem dX7_readFames_59 : decode cX7_readFames 59 = .ok (.getfield 54, 3) := by decide +kernel
theorem dX7_readFames_62 : decode cX7_readFames 62 = .ok (.iconst 1, 1) := by decide +kernel
theorem dX7_readFames_63 : decode cX7_readFames 63 = .ok (.iadd, 1) := by decide +kernel
theorem dX7_readFames_64 : decode cX7_readFames 64 = .ok (.putfield 54, 3) := by decide +kernel
theorem dX7_readFames_67 : decode cX7_readFames 67 = .ok (.goto (-67), 3) := by decide +kernel
theorem dX7_readFames_70 : decode cX7_readFames 70 = .ok (.return_, 1) := by decide +kernel
theorem dX7_readRoute_0 : decode cX7_readRoute 0 = .ok (.aload_n 0, 1) := by decide +kernel
theorem dX7_readRoute_1 : decode cX7_readRoute 1 = .ok (.getfield 79, 3) := by decide +kernel
theorem dX7_readRoute_4 : decode cX7_readRoute 4 = .ok (.ifCond .ne 76, 3) := by decide +kernel
theorem dX7_readRoute_7 : decode cX7_readRoute 7 = .ok (.aload_n 0, 1) := by decide +kernel
theorem dX7_readRoute_8 : decode cX7_readRoute 8 = .ok (.getfield 103, 3) := by decide +kernel
theorem dX7_readRoute_11 : decode cX7_readRoute 11 = .ok (.iconst 2, 1) := by decide +kernel
theorem dX7_readRoute_12 : decode cX7_readRoute 12 = .ok (.if_icmp .ne 68, 3) := by decide +kernel
theorem dX7_readRoute_15 : decode cX7_readRoute 15 = .ok (.aload_n 0, 1) := by decide +kernel
theorem dX7_readRoute_16 : decode cX7_readRoute 16 = .ok (.aload_n 0, 1) := by decide +kernel
theorem dX7_readRoute_17 : decode cX7_readRoute 17 = .ok (.getfield 20, 3) := by decide +kernel
theorem dX7_readRoute_20 : decode cX7_readRoute 20 = .ok (.bipush 29, 2) := by decide +kernel
theorem dX7_readRoute_22 : decode cX7_readRoute 22 = .ok (.iaload, 1) := by decide +kernel
theorem dX7_readRoute_23 : decode cX7_readRoute 23 = .ok (.bipush 6, 2) := by decide +kernel
theorem dX7_readRoute_25 : decode cX7_readRoute 25 = .ok (.if_icmp .ge 7, 3) := by decide +kernel
theorem dX7_readRoute_28 : decode cX7_readRoute 28 = .ok (.iconst 1, 1) := by decide +kernel
theorem dX7_readRoute_29 : decode cX7_readRoute 29 = .ok (.goto 4, 3) := by decide +kernel
theorem dX7_readRoute_32 : decode cX7_readRoute 32 = .ok (.iconst 0, 1) := by decide +kernel
theorem dX7_readRoute_33 : decode cX7_readRoute 33 = .ok (.iconst 5, 1) := by decide +kernel
theorem dX7_readRoute_34 : decode cX7_readRoute 34 = .ok (.invokevirtual 117, 3) := by decide +kernel
theorem dX7_readRoute_37 : decode cX7_readRoute 37 = .ok (.aload_n 0, 1) := by decide +kernel
theorem dX7_readRoute_38 : decode cX7_readRoute 38 = .ok (.getfield 79, 3) := by decide +kernel
theorem dX7_readRoute_41 : decode cX7_readRoute 41 = .ok (.ifCond .ne (-41), 3) := by decide +kernel
theorem dX7_readRoute_44 : decode cX7_readRoute 44 = .ok (.aload_n 0, 1) := by decide +kernel
theorem dX7_readRoute_45 : decode cX7_readRoute 45 = .ok (.getfield 20, 3) := by decide +kernel
theorem dX7_readRoute_48 : decode cX7_readRoute 48 = .ok (.bipush 30, 2) := by decide +kernel
theorem dX7_readRoute_50 : decode cX7_readRoute 50 = .ok (.aload_n 0, 1) := by decide +kernel
theorem dX7_readRoute_51 : decode cX7_readRoute 51 = .ok (.getfield 20, 3) := by decide +kernel
theorem dX7_readRoute_54 : decode cX7_readRoute 54 = .ok (.bipush 29, 2) := by decide +kernel
theorem dX7_readRoute_56 : decode cX7_readRoute 56 = .ok (.iaload, 1) := by decide +kernel
theorem dX7_readRoute_57 : decode cX7_readRoute 57 = .ok (.iadd, 1) := by decide +kernel
theorem dX7_readRoute_58 : decode cX7_readRoute 58 = .ok (.aload_n 0, 1) := by decide +kernel
theorem dX7_readRoute_59 : decode cX7_readRoute 59 = .ok (.iconst 0, 1) := by decide +kernel
theorem dX7_readRoute_60 : decode cX7_readRoute 60 = .ok (.bipush 11, 2) := by decide +kernel
theorem dX7_readRoute_62 : decode cX7_readRoute 62 = .ok (.invokevirtual 128, 3) := by decide +kernel
theorem dX7_readRoute_65 : decode cX7_readRoute 65 = .ok (.iastore, 1) := by decide +kernel
theorem dX7_readRoute_66 : decode cX7_readRoute 66 = .ok (.aload_n 0, 1) := by decide +kernel
theorem dX7_readRoute_67 : decode cX7_readRoute 67 = .ok (.getfield 20, 3) := by decide +kernel
theorem dX7_readRoute_70 : decode cX7_readRoute 70 = .ok (.bipush 29, 2) := by decide +kernel
theorem dX7_readRoute_72 : decode cX7_readRoute 72 = .ok (.dup2, 1) := by decide +kernel
theorem dX7_readRoute_73 : decode cX7_readRoute 73 = .ok (.iaload, 1) := by decide +kernel
theorem dX7_readRoute_74 : decode cX7_readRoute 74 = .ok (.iconst 1, 1) := by decide +kernel
theorem dX7_readRoute_75 : decode cX7_readRoute 75 = .ok (.iadd, 1) := by decide +kernel
theorem dX7_readRoute_76 : decode cX7_readRoute 76 = .ok (.iastore, 1) := by decide +kernel
theorem dX7_readRoute_77 : decode cX7_readRoute 77 = .ok (.goto (-77), 3) := by decide +kernel
theorem dX7_readRoute_80 : decode cX7_readRoute 80 = .ok (.return_, 1) := by decide +kernel
theorem dX7_readLineOf_0 : decode cX7_readLineOf 0 = .ok (.iload_n 1, 1) := by decide +kernel
theorem dX7_readLineOf_1 : decode cX7_readLineOf 1 = .ok (.tableswitch 58 4 6 #[27, 34, 41], 27) := by decide +kernel
theorem dX7_readLineOf_28 : decode cX7_readLineOf 28 = .ok (.aload_n 0, 1) := by decide +kernel
theorem dX7_readLineOf_29 : decode cX7_readLineOf 29 = .ok (.invokevirtual 131, 3) := by decide +kernel
theorem dX7_readLineOf_32 : decode cX7_readLineOf 32 = .ok (.goto 100, 3) := by decide +kernel
theorem dX7_readLineOf_35 : decode cX7_readLineOf 35 = .ok (.aload_n 0, 1) := by decide +kernel
theorem dX7_readLineOf_36 : decode cX7_readLineOf 36 = .ok (.invokevirtual 134, 3) := by decide +kernel
theorem dX7_readLineOf_39 : decode cX7_readLineOf 39 = .ok (.goto 93, 3) := by decide +kernel
theorem dX7_readLineOf_42 : decode cX7_readLineOf 42 = .ok (.aload_n 0, 1) := by decide +kernel
theorem dX7_readLineOf_43 : decode cX7_readLineOf 43 = .ok (.getfield 20, 3) := by decide +kernel
theorem dX7_readLineOf_46 : decode cX7_readLineOf 46 = .ok (.bipush 28, 2) := by decide +kernel
theorem dX7_readLineOf_48 : decode cX7_readLineOf 48 = .ok (.aload_n 0, 1) := by decide +kernel
theorem dX7_readLineOf_49 : decode cX7_readLineOf 49 = .ok (.iconst 0, 1) := by decide +kernel
theorem dX7_readLineOf_50 : decode cX7_readLineOf 50 = .ok (.bipush 11, 2) := by decide +kernel
theorem dX7_readLineOf_52 : decode cX7_readLineOf 52 = .ok (.invokevirtual 128, 3) := by decide +kernel
theorem dX7_readLineOf_55 : decode cX7_readLineOf 55 = .ok (.iastore, 1) := by decide +kernel
theorem dX7_readLineOf_56 : decode cX7_readLineOf 56 = .ok (.goto 76, 3) := by decide +kernel
theorem dX7_readLineOf_59 : decode cX7_readLineOf 59 = .ok (.aload_n 0, 1) := by decide +kernel
theorem dX7_readLineOf_60 : decode cX7_readLineOf 60 = .ok (.getfield 20, 3) := by decide +kernel
theorem dX7_readLineOf_63 : decode cX7_readLineOf 63 = .ok (.bipush 12, 2) := by decide +kernel
theorem dX7_readLineOf_65 : decode cX7_readLineOf 65 = .ok (.iconst 4, 1) := by decide +kernel
theorem dX7_readLineOf_66 : decode cX7_readLineOf 66 = .ok (.aload_n 0, 1) := by decide +kernel
theorem dX7_readLineOf_67 : decode cX7_readLineOf 67 = .ok (.getfield 50, 3) := by decide +kernel
theorem dX7_readLineOf_70 : decode cX7_readLineOf 70 = .ok (.imul, 1) := by decide +kernel
theorem dX7_readLineOf_71 : decode cX7_readLineOf 71 = .ok (.iadd, 1) := by decide +kernel
theorem dX7_readLineOf_72 : decode cX7_readLineOf 72 = .ok (.iconst 0, 1) := by decide +kernel
theorem dX7_readLineOf_73 : decode cX7_readLineOf 73 = .ok (.iadd, 1) := by decide +kernel
theorem dX7_readLineOf_74 : decode cX7_readLineOf 74 = .ok (.iload_n 1, 1) := by decide +kernel
theorem dX7_readLineOf_75 : decode cX7_readLineOf 75 = .ok (.iastore, 1) := by decide +kernel
theorem dX7_readLineOf_76 : decode cX7_readLineOf 76 = .ok (.aload_n 0, 1) := by decide +kernel
theorem dX7_readLineOf_77 : decode cX7_readLineOf 77 = .ok (.getfield 20, 3) := by decide +kernel
theorem dX7_readLineOf_80 : decode cX7_readLineOf 80 = .ok (.bipush 12, 2) := by decide +kernel
theorem dX7_readLineOf_82 : decode cX7_readLineOf 82 = .ok (.iconst 4, 1) := by decide +kernel
theorem dX7_readLineOf_83 : decode cX7_readLineOf 83 = .ok (.aload_n 0, 1) := by decide +kernel
theorem dX7_readLineOf_84 : decode cX7_readLineOf 84 = .ok (.getfield 50, 3) := by decide +kernel
theorem dX7_readLineOf_87 : decode cX7_readLineOf 87 = .ok (.imul, 1) := by decide +kernel
theorem dX7_readLineOf_88 : decode cX7_readLineOf 88 = .ok (.iadd, 1) := by decide +kernel
theorem dX7_readLineOf_89 : decode cX7_readLineOf 89 = .ok (.iconst 1, 1) := by decide +kernel
theorem dX7_readLineOf_90 : decode cX7_readLineOf 90 = .ok (.iadd, 1) := by decide +kernel
theorem dX7_readLineOf_91 : decode cX7_readLineOf 91 = .ok (.aload_n 0, 1) := by decide +kernel
theorem dX7_readLineOf_92 : decode cX7_readLineOf 92 = .ok (.iconst 0, 1) := by decide +kernel
theorem dX7_readLineOf_93 : decode cX7_readLineOf 93 = .ok (.bipush 11, 2) := by decide +kernel
theorem dX7_readLineOf_95 : decode cX7_readLineOf 95 = .ok (.invokevirtual 128, 3) := by decide +kernel
theorem dX7_readLineOf_98 : decode cX7_readLineOf 98 = .ok (.iastore, 1) := by decide +kernel
theorem dX7_readLineOf_99 : decode cX7_readLineOf 99 = .ok (.aload_n 0, 1) := by decide +kernel
theorem dX7_readLineOf_100 : decode cX7_readLineOf 100 = .ok (.getfield 20, 3) := by decide +kernel
theorem dX7_readLineOf_103 : decode cX7_readLineOf 103 = .ok (.bipush 12, 2) := by decide +kernel
theorem dX7_readLineOf_105 : decode cX7_readLineOf 105 = .ok (.iconst 4, 1) := by decide +kernel
theorem dX7_readLineOf_106 : decode cX7_readLineOf 106 = .ok (.aload_n 0, 1) := by decide +kernel
theorem dX7_readLineOf_107 : decode cX7_readLineOf 107 = .ok (.getfield 50, 3) := by decide +kernel
theorem dX7_readLineOf_110 : decode cX7_readLineOf 110 = .ok (.imul, 1) := by decide +kernel
theorem dX7_readLineOf_111 : decode cX7_readLineOf 111 = .ok (.iadd, 1) := by decide +kernel
theorem dX7_readLineOf_112 : decode cX7_readLineOf 112 = .ok (.iconst 2, 1) := by decide +kernel
theorem dX7_readLineOf_113 : decode cX7_readLineOf 113 = .ok (.iadd, 1) := by decide +kernel
theorem dX7_readLineOf_114 : decode cX7_readLineOf 114 = .ok (.aload_n 0, 1) := by decide +kernel
theorem dX7_readLineOf_115 : decode cX7_readLineOf 115 = .ok (.iconst 0, 1) := by decide +kernel
theorem dX7_readLineOf_116 : decode cX7_readLineOf 116 = .ok (.bipush 20, 2) := by decide +kernel
theorem dX7_readLineOf_118 : decode cX7_readLineOf 118 = .ok (.invokevirtual 128, 3) := by decide +kernel
theorem dX7_readLineOf_121 : decode cX7_readLineOf 121 = .ok (.iastore, 1) := by decide +kernel
theorem dX7_readLineOf_122 : decode cX7_readLineOf 122 = .ok (.aload_n 0, 1) := by decide +kernel
theorem dX7_readLineOf_123 : decode cX7_readLineOf 123 = .ok (.dup, 1) := by decide +kernel
theorem dX7_readLineOf_124 : decode cX7_readLineOf 124 = .ok (.getfield 50, 3) := by decide +kernel
theorem dX7_readLineOf_127 : decode cX7_readLineOf 127 = .ok (.iconst 1, 1) := by decide +kernel
theorem dX7_readLineOf_128 : decode cX7_readLineOf 128 = .ok (.iadd, 1) := by decide +kernel
theorem dX7_readLineOf_129 : decode cX7_readLineOf 129 = .ok (.putfield 50, 3) := by decide +kernel
theorem dX7_readLineOf_132 : decode cX7_readLineOf 132 = .ok (.return_, 1) := by decide +kernel
theorem dX7_wasTold_0 : decode cX7_wasTold 0 = .ok (.iload_n 1, 1) := by decide +kernel
theorem dX7_wasTold_1 : decode cX7_wasTold 1 = .ok (.iconst 4, 1) := by decide +kernel
theorem dX7_wasTold_2 : decode cX7_wasTold 2 = .ok (.if_icmp .ne 10, 3) := by decide +kernel
theorem dX7_wasTold_5 : decode cX7_wasTold 5 = .ok (.aload_n 0, 1) := by decide +kernel
theorem dX7_wasTold_6 : decode cX7_wasTold 6 = .ok (.getfield 57, 3) := by decide +kernel
theorem dX7_wasTold_9 : decode cX7_wasTold 9 = .ok (.goto 33, 3) := by decide +kernel
theorem dX7_wasTold_12 : decode cX7_wasTold 12 = .ok (.iload_n 1, 1) := by decide +kernel
theorem dX7_wasTold_13 : decode cX7_wasTold 13 = .ok (.iconst 5, 1) := by decide +kernel
theorem dX7_wasTold_14 : decode cX7_wasTold 14 = .ok (.if_icmp .ne 10, 3) := by decide +kernel
theorem dX7_wasTold_17 : decode cX7_wasTold 17 = .ok (.aload_n 0, 1) := by decide +kernel
theorem dX7_wasTold_18 : decode cX7_wasTold 18 = .ok (.getfield 61, 3) := by decide +kernel
theorem dX7_wasTold_21 : decode cX7_wasTold 21 = .ok (.goto 21, 3) := by decide +kernel
theorem dX7_wasTold_24 : decode cX7_wasTold 24 = .ok (.iload_n 1, 1) := by decide +kernel
theorem dX7_wasTold_25 : decode cX7_wasTold 25 = .ok (.bipush 6, 2) := by decide +kernel
theorem dX7_wasTold_27 : decode cX7_wasTold 27 = .ok (.if_icmp .ne 14, 3) := by decide +kernel
theorem dX7_wasTold_30 : decode cX7_wasTold 30 = .ok (.aload_n 0, 1) := by decide +kernel
theorem dX7_wasTold_31 : decode cX7_wasTold 31 = .ok (.getfield 64, 3) := by decide +kernel
theorem dX7_wasTold_34 : decode cX7_wasTold 34 = .ok (.ifCond .eq 7, 3) := by decide +kernel
theorem dX7_wasTold_37 : decode cX7_wasTold 37 = .ok (.iconst 1, 1) := by decide +kernel
theorem dX7_wasTold_38 : decode cX7_wasTold 38 = .ok (.goto 4, 3) := by decide +kernel
theorem dX7_wasTold_41 : decode cX7_wasTold 41 = .ok (.iconst 0, 1) := by decide +kernel
theorem dX7_wasTold_42 : decode cX7_wasTold 42 = .ok (.ireturn, 1) := by decide +kernel
theorem dX7_readLine_0 : decode cX7_readLine 0 = .ok (.aload_n 0, 1) := by decide +kernel
theorem dX7_readLine_1 : decode cX7_readLine 1 = .ok (.getfield 103, 3) := by decide +kernel
theorem dX7_readLine_4 : decode cX7_readLine 4 = .ok (.iconst 1, 1) := by decide +kernel
theorem dX7_readLine_5 : decode cX7_readLine 5 = .ok (.if_icmp .ne 10, 3) := by decide +kernel
theorem dX7_readLine_8 : decode cX7_readLine 8 = .ok (.aload_n 0, 1) := by decide +kernel
theorem dX7_readLine_9 : decode cX7_readLine 9 = .ok (.invokevirtual 137, 3) := by decide +kernel
theorem dX7_readLine_12 : decode cX7_readLine 12 = .ok (.goto 5, 3) := by decide +kernel
theorem dX7_readLine_15 : decode cX7_readLine 15 = .ok (.bipush (-4), 2) := by decide +kernel
theorem dX7_readLine_17 : decode cX7_readLine 17 = .ok (.istore_n 1, 1) := by decide +kernel
theorem dX7_readLine_18 : decode cX7_readLine 18 = .ok (.aload_n 0, 1) := by decide +kernel
theorem dX7_readLine_19 : decode cX7_readLine 19 = .ok (.iload_n 1, 1) := by decide +kernel
theorem dX7_readLine_20 : decode cX7_readLine 20 = .ok (.bipush (-4), 2) := by decide +kernel
theorem dX7_readLine_22 : decode cX7_readLine 22 = .ok (.if_icmp .eq 7, 3) := by decide +kernel
theorem dX7_readLine_25 : decode cX7_readLine 25 = .ok (.iconst 1, 1) := by decide +kernel
theorem dX7_readLine_26 : decode cX7_readLine 26 = .ok (.goto 4, 3) := by decide +kernel
theorem dX7_readLine_29 : decode cX7_readLine 29 = .ok (.iconst 0, 1) := by decide +kernel
theorem dX7_readLine_30 : decode cX7_readLine 30 = .ok (.iconst 2, 1) := by decide +kernel
theorem dX7_readLine_31 : decode cX7_readLine 31 = .ok (.invokevirtual 117, 3) := by decide +kernel
theorem dX7_readLine_34 : decode cX7_readLine 34 = .ok (.aload_n 0, 1) := by decide +kernel
theorem dX7_readLine_35 : decode cX7_readLine 35 = .ok (.iload_n 1, 1) := by decide +kernel
theorem dX7_readLine_36 : decode cX7_readLine 36 = .ok (.iconst 4, 1) := by decide +kernel
theorem dX7_readLine_37 : decode cX7_readLine 37 = .ok (.if_icmp .ge 11, 3) := by decide +kernel
theorem dX7_readLine_40 : decode cX7_readLine 40 = .ok (.aload_n 0, 1) := by decide +kernel
theorem dX7_readLine_41 : decode cX7_readLine 41 = .ok (.getfield 50, 3) := by decide +kernel
theorem dX7_readLine_44 : decode cX7_readLine 44 = .ok (.iconst 4, 1) := by decide +kernel
theorem dX7_readLine_45 : decode cX7_readLine 45 = .ok (.if_icmp .ge 7, 3) := by decide +kernel
theorem dX7_readLine_48 : decode cX7_readLine 48 = .ok (.iconst 1, 1) := by decide +kernel
theorem dX7_readLine_49 : decode cX7_readLine 49 = .ok (.goto 4, 3) := by decide +kernel
theorem dX7_readLine_52 : decode cX7_readLine 52 = .ok (.iconst 0, 1) := by decide +kernel
theorem dX7_readLine_53 : decode cX7_readLine 53 = .ok (.iconst 5, 1) := by decide +kernel
theorem dX7_readLine_54 : decode cX7_readLine 54 = .ok (.invokevirtual 117, 3) := by decide +kernel
theorem dX7_readLine_57 : decode cX7_readLine 57 = .ok (.aload_n 0, 1) := by decide +kernel
theorem dX7_readLine_58 : decode cX7_readLine 58 = .ok (.aload_n 0, 1) := by decide +kernel
theorem dX7_readLine_59 : decode cX7_readLine 59 = .ok (.iload_n 1, 1) := by decide +kernel
theorem dX7_readLine_60 : decode cX7_readLine 60 = .ok (.invokevirtual 141, 3) := by decide +kernel
theorem dX7_readLine_63 : decode cX7_readLine 63 = .ok (.ifCond .ne 7, 3) := by decide +kernel
theorem dX7_readLine_66 : decode cX7_readLine 66 = .ok (.iconst 1, 1) := by decide +kernel
theorem dX7_readLine_67 : decode cX7_readLine 67 = .ok (.goto 4, 3) := by decide +kernel
theorem dX7_readLine_70 : decode cX7_readLine 70 = .ok (.iconst 0, 1) := by decide +kernel
theorem dX7_readLine_71 : decode cX7_readLine 71 = .ok (.iconst 4, 1) := by decide +kernel
theorem dX7_readLine_72 : decode cX7_readLine 72 = .ok (.invokevirtual 117, 3) := by decide +kernel
theorem dX7_readLine_75 : decode cX7_readLine 75 = .ok (.aload_n 0, 1) := by decide +kernel
theorem dX7_readLine_76 : decode cX7_readLine 76 = .ok (.aload_n 0, 1) := by decide +kernel
theorem dX7_readLine_77 : decode cX7_readLine 77 = .ok (.getfield 57, 3) := by decide +kernel
theorem dX7_readLine_80 : decode cX7_readLine 80 = .ok (.ifCond .ne 8, 3) := by decide +kernel
theorem dX7_readLine_83 : decode cX7_readLine 83 = .ok (.iload_n 1, 1) := by decide +kernel
theorem dX7_readLine_84 : decode cX7_readLine 84 = .ok (.iconst 4, 1) := by decide +kernel
theorem dX7_readLine_85 : decode cX7_readLine 85 = .ok (.if_icmp .ne 7, 3) := by decide +kernel
theorem dX7_readLine_88 : decode cX7_readLine 88 = .ok (.iconst 1, 1) := by decide +kernel
theorem dX7_readLine_89 : decode cX7_readLine 89 = .ok (.goto 4, 3) := by decide +kernel
theorem dX7_readLine_92 : decode cX7_readLine 92 = .ok (.iconst 0, 1) := by decide +kernel
theorem dX7_readLine_93 : decode cX7_readLine 93 = .ok (.putfield 57, 3) := by decide +kernel
theorem dX7_readLine_96 : decode cX7_readLine 96 = .ok (.aload_n 0, 1) := by decide +kernel
theorem dX7_readLine_97 : decode cX7_readLine 97 = .ok (.aload_n 0, 1) := by decide +kernel
theorem dX7_readLine_98 : decode cX7_readLine 98 = .ok (.getfield 61, 3) := by decide +kernel
theorem dX7_readLine_101 : decode cX7_readLine 101 = .ok (.ifCond .ne 8, 3) := by decide +kernel
theorem dX7_readLine_104 : decode cX7_readLine 104 = .ok (.iload_n 1, 1) := by decide +kernel
theorem dX7_readLine_105 : decode cX7_readLine 105 = .ok (.iconst 5, 1) := by decide +kernel
theorem dX7_readLine_106 : decode cX7_readLine 106 = .ok (.if_icmp .ne 7, 3) := by decide +kernel
theorem dX7_readLine_109 : decode cX7_readLine 109 = .ok (.iconst 1, 1) := by decide +kernel
theorem dX7_readLine_110 : decode cX7_readLine 110 = .ok (.goto 4, 3) := by decide +kernel
theorem dX7_readLine_113 : decode cX7_readLine 113 = .ok (.iconst 0, 1) := by decide +kernel
theorem dX7_readLine_114 : decode cX7_readLine 114 = .ok (.putfield 61, 3) := by decide +kernel
theorem dX7_readLine_117 : decode cX7_readLine 117 = .ok (.aload_n 0, 1) := by decide +kernel
theorem dX7_readLine_118 : decode cX7_readLine 118 = .ok (.aload_n 0, 1) := by decide +kernel
theorem dX7_readLine_119 : decode cX7_readLine 119 = .ok (.getfield 64, 3) := by decide +kernel
theorem dX7_readLine_122 : decode cX7_readLine 122 = .ok (.ifCond .ne 9, 3) := by decide +kernel
theorem dX7_readLine_125 : decode cX7_readLine 125 = .ok (.iload_n 1, 1) := by decide +kernel
theorem dX7_readLine_126 : decode cX7_readLine 126 = .ok (.bipush 6, 2) := by decide +kernel
theorem dX7_readLine_128 : decode cX7_readLine 128 = .ok (.if_icmp .ne 7, 3) := by decide +kernel
theorem dX7_readLine_131 : decode cX7_readLine 131 = .ok (.iconst 1, 1) := by decide +kernel
theorem dX7_readLine_132 : decode cX7_readLine 132 = .ok (.goto 4, 3) := by decide +kernel
theorem dX7_readLine_135 : decode cX7_readLine 135 = .ok (.iconst 0, 1) := by decide +kernel
theorem dX7_readLine_136 : decode cX7_readLine 136 = .ok (.putfield 64, 3) := by decide +kernel
theorem dX7_readLine_139 : decode cX7_readLine 139 = .ok (.aload_n 0, 1) := by decide +kernel
theorem dX7_readLine_140 : decode cX7_readLine 140 = .ok (.invokevirtual 125, 3) := by decide +kernel
theorem dX7_readLine_143 : decode cX7_readLine 143 = .ok (.aload_n 0, 1) := by decide +kernel
theorem dX7_readLine_144 : decode cX7_readLine 144 = .ok (.getfield 79, 3) := by decide +kernel
theorem dX7_readLine_147 : decode cX7_readLine 147 = .ok (.ifCond .le 4, 3) := by decide +kernel
theorem dX7_readLine_150 : decode cX7_readLine 150 = .ok (.return_, 1) := by decide +kernel
theorem dX7_readLine_151 : decode cX7_readLine 151 = .ok (.aload_n 0, 1) := by decide +kernel
theorem dX7_readLine_152 : decode cX7_readLine 152 = .ok (.iload_n 1, 1) := by decide +kernel
theorem dX7_readLine_153 : decode cX7_readLine 153 = .ok (.invokevirtual 145, 3) := by decide +kernel
theorem dX7_readLine_156 : decode cX7_readLine 156 = .ok (.aload_n 0, 1) := by decide +kernel
theorem dX7_readLine_157 : decode cX7_readLine 157 = .ok (.getfield 79, 3) := by decide +kernel
theorem dX7_readLine_160 : decode cX7_readLine 160 = .ok (.ifCond .ne 21, 3) := by decide +kernel
theorem dX7_readLine_163 : decode cX7_readLine 163 = .ok (.aload_n 0, 1) := by decide +kernel
theorem dX7_readLine_164 : decode cX7_readLine 164 = .ok (.aload_n 0, 1) := by decide +kernel
theorem dX7_readLine_165 : decode cX7_readLine 165 = .ok (.getfield 103, 3) := by decide +kernel
theorem dX7_readLine_168 : decode cX7_readLine 168 = .ok (.iconst 3, 1) := by decide +kernel
theorem dX7_readLine_169 : decode cX7_readLine 169 = .ok (.if_icmp .ne 7, 3) := by decide +kernel
theorem dX7_readLine_172 : decode cX7_readLine 172 = .ok (.iconst 1, 1) := by decide +kernel
theorem dX7_readLine_173 : decode cX7_readLine 173 = .ok (.goto 4, 3) := by decide +kernel
theorem dX7_readLine_176 : decode cX7_readLine 176 = .ok (.iconst 0, 1) := by decide +kernel
theorem dX7_readLine_177 : decode cX7_readLine 177 = .ok (.iconst 2, 1) := by decide +kernel
theorem dX7_readLine_178 : decode cX7_readLine 178 = .ok (.invokevirtual 117, 3) := by decide +kernel
theorem dX7_readLine_181 : decode cX7_readLine 181 = .ok (.aload_n 0, 1) := by decide +kernel
theorem dX7_readLine_182 : decode cX7_readLine 182 = .ok (.invokevirtual 125, 3) := by decide +kernel
theorem dX7_readLine_185 : decode cX7_readLine 185 = .ok (.return_, 1) := by decide +kernel
theorem dX7_text_0 : decode cX7_text 0 = .ok (.iconst 0, 1) := by decide +kernel
theorem dX7_text_1 : decode cX7_text 1 = .ok (.istore_n 1, 1) := by decide +kernel
theorem dX7_text_2 : decode cX7_text 2 = .ok (.aload_n 0, 1) := by decide +kernel
theorem dX7_text_3 : decode cX7_text 3 = .ok (.iconst 0, 1) := by decide +kernel
theorem dX7_text_4 : decode cX7_text 4 = .ok (.putfield 79, 3) := by decide +kernel
theorem dX7_text_7 : decode cX7_text 7 = .ok (.aload_n 0, 1) := by decide +kernel
theorem dX7_text_8 : decode cX7_text 8 = .ok (.iconst 0, 1) := by decide +kernel
theorem dX7_text_9 : decode cX7_text 9 = .ok (.putfield 88, 3) := by decide +kernel
theorem dX7_text_12 : decode cX7_text 12 = .ok (.aload_n 0, 1) := by decide +kernel
theorem dX7_text_13 : decode cX7_text 13 = .ok (.invokevirtual 44, 3) := by decide +kernel
theorem dX7_text_16 : decode cX7_text 16 = .ok (.aload_n 0, 1) := by decide +kernel
theorem dX7_text_17 : decode cX7_text 17 = .ok (.invokevirtual 125, 3) := by decide +kernel
theorem dX7_text_20 : decode cX7_text 20 = .ok (.aload_n 0, 1) := by decide +kernel
theorem dX7_text_21 : decode cX7_text 21 = .ok (.getfield 79, 3) := by decide +kernel
theorem dX7_text_24 : decode cX7_text 24 = .ok (.ifCond .ne 20, 3) := by decide +kernel
theorem dX7_text_27 : decode cX7_text 27 = .ok (.aload_n 0, 1) := by decide +kernel
theorem dX7_text_28 : decode cX7_text 28 = .ok (.getfield 103, 3) := by decide +kernel
theorem dX7_text_31 : decode cX7_text 31 = .ok (.ifCond .eq 13, 3) := by decide +kernel
theorem dX7_text_34 : decode cX7_text 34 = .ok (.aload_n 0, 1) := by decide +kernel
theorem dX7_text_35 : decode cX7_text 35 = .ok (.invokevirtual 149, 3) := by decide +kernel
theorem dX7_text_38 : decode cX7_text 38 = .ok (.iinc 1 1, 3) := by decide +kernel
theorem dX7_text_41 : decode cX7_text 41 = .ok (.goto (-21), 3) := by decide +kernel
theorem dX7_text_44 : decode cX7_text 44 = .ok (.aload_n 0, 1) := by decide +kernel
theorem dX7_text_45 : decode cX7_text 45 = .ok (.iconst 0, 1) := by decide +kernel
theorem dX7_text_46 : decode cX7_text 46 = .ok (.putfield 76, 3) := by decide +kernel
theorem dX7_text_49 : decode cX7_text 49 = .ok (.aload_n 0, 1) := by decide +kernel
theorem dX7_text_50 : decode cX7_text 50 = .ok (.getfield 79, 3) := by decide +kernel
theorem dX7_text_53 : decode cX7_text 53 = .ok (.ifCond .le 11, 3) := by decide +kernel
theorem dX7_text_56 : decode cX7_text 56 = .ok (.bipush (-10), 2) := by decide +kernel
theorem dX7_text_58 : decode cX7_text 58 = .ok (.aload_n 0, 1) := by decide +kernel
theorem dX7_text_59 : decode cX7_text 59 = .ok (.getfield 85, 3) := by decide +kernel
theorem dX7_text_62 : decode cX7_text 62 = .ok (.isub, 1) := by decide +kernel
theorem dX7_text_63 : decode cX7_text 63 = .ok (.ireturn, 1) := by decide +kernel
theorem dX7_text_64 : decode cX7_text 64 = .ok (.aload_n 0, 1) := by decide +kernel
theorem dX7_text_65 : decode cX7_text 65 = .ok (.invokevirtual 47, 3) := by decide +kernel
theorem dX7_text_68 : decode cX7_text 68 = .ok (.iload_n 1, 1) := by decide +kernel
theorem dX7_text_69 : decode cX7_text 69 = .ok (.ireturn, 1) := by decide +kernel
theorem dX7_fault_0 : decode cX7_fault 0 = .ok (.aload_n 0, 1) := by decide +kernel
theorem dX7_fault_1 : decode cX7_fault 1 = .ok (.getfield 79, 3) := by decide +kernel
theorem dX7_fault_4 : decode cX7_fault 4 = .ok (.ireturn, 1) := by decide +kernel
theorem dX7_isGlove_0 : decode cX7_isGlove 0 = .ok (.iload_n 1, 1) := by decide +kernel
theorem dX7_isGlove_1 : decode cX7_isGlove 1 = .ok (.i2l, 1) := by decide +kernel
theorem dX7_isGlove_2 : decode cX7_isGlove 2 = .ok (.lconst 0, 1) := by decide +kernel
theorem dX7_isGlove_3 : decode cX7_isGlove 3 = .ok (.aload_n 0, 1) := by decide +kernel
theorem dX7_isGlove_4 : decode cX7_isGlove 4 = .ok (.getfield 67, 3) := by decide +kernel
theorem dX7_isGlove_7 : decode cX7_isGlove 7 = .ok (.iconst 1, 1) := by decide +kernel
theorem dX7_isGlove_8 : decode cX7_isGlove 8 = .ok (.isub, 1) := by decide +kernel
theorem dX7_isGlove_9 : decode cX7_isGlove 9 = .ok (.i2l, 1) := by decide +kernel
theorem dX7_isGlove_10 : decode cX7_isGlove 10 = .ok (.invokestatic 72, 3) := by decide +kernel
theorem dX7_isGlove_13 : decode cX7_isGlove 13 = .ok (.ireturn, 1) := by decide +kernel
theorem dX7_isDoor_0 : decode cX7_isDoor 0 = .ok (.iload_n 0, 1) := by decide +kernel
theorem dX7_isDoor_1 : decode cX7_isDoor 1 = .ok (.i2l, 1) := by decide +kernel
theorem dX7_isDoor_2 : decode cX7_isDoor 2 = .ok (.lconst 0, 1) := by decide +kernel
theorem dX7_isDoor_3 : decode cX7_isDoor 3 = .ok (.ldc2_w 152, 3) := by decide +kernel
theorem dX7_isDoor_6 : decode cX7_isDoor 6 = .ok (.invokestatic 72, 3) := by decide +kernel
theorem dX7_isDoor_9 : decode cX7_isDoor 9 = .ok (.ireturn, 1) := by decide +kernel
theorem dX7_isCall_0 : decode cX7_isCall 0 = .ok (.iload_n 1, 1) := by decide +kernel
theorem dX7_isCall_1 : decode cX7_isCall 1 = .ok (.i2l, 1) := by decide +kernel
theorem dX7_isCall_2 : decode cX7_isCall 2 = .ok (.lconst 0, 1) := by decide +kernel
theorem dX7_isCall_3 : decode cX7_isCall 3 = .ok (.aload_n 0, 1) := by decide +kernel
theorem dX7_isCall_4 : decode cX7_isCall 4 = .ok (.getfield 7, 3) := by decide +kernel
theorem dX7_isCall_7 : decode cX7_isCall 7 = .ok (.bipush 29, 2) := by decide +kernel
theorem dX7_isCall_9 : decode cX7_isCall 9 = .ok (.iaload, 1) := by decide +kernel
theorem dX7_isCall_10 : decode cX7_isCall 10 = .ok (.iconst 1, 1) := by decide +kernel
theorem dX7_isCall_11 : decode cX7_isCall 11 = .ok (.isub, 1) := by decide +kernel
theorem dX7_isCall_12 : decode cX7_isCall 12 = .ok (.i2l, 1) := by decide +kernel
theorem dX7_isCall_13 : decode cX7_isCall 13 = .ok (.invokestatic 72, 3) := by decide +kernel
theorem dX7_isCall_16 : decode cX7_isCall 16 = .ok (.ireturn, 1) := by decide +kernel
theorem dX7_isPart_0 : decode cX7_isPart 0 = .ok (.iload_n 0, 1) := by decide +kernel
theorem dX7_isPart_1 : decode cX7_isPart 1 = .ok (.i2l, 1) := by decide +kernel
theorem dX7_isPart_2 : decode cX7_isPart 2 = .ok (.lconst 0, 1) := by decide +kernel
theorem dX7_isPart_3 : decode cX7_isPart 3 = .ok (.lconst 1, 1) := by decide +kernel
theorem dX7_isPart_4 : decode cX7_isPart 4 = .ok (.invokestatic 72, 3) := by decide +kernel
theorem dX7_isPart_7 : decode cX7_isPart 7 = .ok (.ireturn, 1) := by decide +kernel
theorem dX7_starts_0 : decode cX7_starts 0 = .ok (.iconst 0, 1) := by decide +kernel
theorem dX7_starts_1 : decode cX7_starts 1 = .ok (.istore_n 1, 1) := by decide +kernel
theorem dX7_starts_2 : decode cX7_starts 2 = .ok (.iload_n 1, 1) := by decide +kernel
theorem dX7_starts_3 : decode cX7_starts 3 = .ok (.bipush 57, 2) := by decide +kernel
theorem dX7_starts_5 : decode cX7_starts 5 = .ok (.if_icmp .ge 21, 3) := by decide +kernel
theorem dX7_starts_8 : decode cX7_starts 8 = .ok (.aload_n 0, 1) := by decide +kernel
theorem dX7_starts_9 : decode cX7_starts 9 = .ok (.getfield 13, 3) := by decide +kernel
theorem dX7_starts_12 : decode cX7_starts 12 = .ok (.iload_n 1, 1) := by decide +kernel
theorem dX7_starts_13 : decode cX7_starts 13 = .ok (.aload_n 0, 1) := by decide +kernel
theorem dX7_starts_14 : decode cX7_starts 14 = .ok (.getfield 7, 3) := by decide +kernel
theorem dX7_starts_17 : decode cX7_starts 17 = .ok (.iload_n 1, 1) := by decide +kernel
theorem dX7_starts_18 : decode cX7_starts 18 = .ok (.iaload, 1) := by decide +kernel
theorem dX7_starts_19 : decode cX7_starts 19 = .ok (.iastore, 1) := by decide +kernel
theorem dX7_starts_20 : decode cX7_starts 20 = .ok (.iinc 1 1, 3) := by decide +kernel
theorem dX7_starts_23 : decode cX7_starts 23 = .ok (.goto (-21), 3) := by decide +kernel
theorem dX7_starts_26 : decode cX7_starts 26 = .ok (.return_, 1) := by decide +kernel
theorem dX7_settles_0 : decode cX7_settles 0 = .ok (.iconst 0, 1) := by decide +kernel
theorem dX7_settles_1 : decode cX7_settles 1 = .ok (.istore_n 1, 1) := by decide +kernel
theorem dX7_settles_2 : decode cX7_settles 2 = .ok (.iload_n 1, 1) := by decide +kernel
theorem dX7_settles_3 : decode cX7_settles 3 = .ok (.bipush 57, 2) := by decide +kernel
theorem dX7_settles_5 : decode cX7_settles 5 = .ok (.if_icmp .ge 21, 3) := by decide +kernel
theorem dX7_settles_8 : decode cX7_settles 8 = .ok (.aload_n 0, 1) := by decide +kernel
theorem dX7_settles_9 : decode cX7_settles 9 = .ok (.getfield 7, 3) := by decide +kernel
theorem dX7_settles_12 : decode cX7_settles 12 = .ok (.iload_n 1, 1) := by decide +kernel
theorem dX7_settles_13 : decode cX7_settles 13 = .ok (.aload_n 0, 1) := by decide +kernel
theorem dX7_settles_14 : decode cX7_settles 14 = .ok (.getfield 13, 3) := by decide +kernel
theorem dX7_settles_17 : decode cX7_settles 17 = .ok (.iload_n 1, 1) := by decide +kernel
theorem dX7_settles_18 : decode cX7_settles 18 = .ok (.iaload, 1) := by decide +kernel
theorem dX7_settles_19 : decode cX7_settles 19 = .ok (.iastore, 1) := by decide +kernel
theorem dX7_settles_20 : decode cX7_settles 20 = .ok (.iinc 1 1, 3) := by decide +kernel
theorem dX7_settles_23 : decode cX7_settles 23 = .ok (.goto (-21), 3) := by decide +kernel
theorem dX7_settles_26 : decode cX7_settles 26 = .ok (.return_, 1) := by decide +kernel
theorem dX7_of_0 : decode cX7_of 0 = .ok (.aload_n 0, 1) := by decide +kernel
theorem dX7_of_1 : decode cX7_of 1 = .ok (.getfield 13, 3) := by decide +kernel
theorem dX7_of_4 : decode cX7_of 4 = .ok (.bipush 12, 2) := by decide +kernel
theorem dX7_of_6 : decode cX7_of 6 = .ok (.iconst 4, 1) := by decide +kernel
theorem dX7_of_7 : decode cX7_of 7 = .ok (.iload_n 1, 1) := by decide +kernel
theorem dX7_of_8 : decode cX7_of 8 = .ok (.imul, 1) := by decide +kernel
theorem dX7_of_9 : decode cX7_of 9 = .ok (.iadd, 1) := by decide +kernel
theorem dX7_of_10 : decode cX7_of 10 = .ok (.iload_n 2, 1) := by decide +kernel
theorem dX7_of_11 : decode cX7_of 11 = .ok (.iadd, 1) := by decide +kernel
theorem dX7_of_12 : decode cX7_of 12 = .ok (.iaload, 1) := by decide +kernel
theorem dX7_of_13 : decode cX7_of 13 = .ok (.ireturn, 1) := by decide +kernel
theorem dX7_becomesOf_0 : decode cX7_becomesOf 0 = .ok (.aload_n 0, 1) := by decide +kernel
theorem dX7_becomesOf_1 : decode cX7_becomesOf 1 = .ok (.getfield 13, 3) := by decide +kernel
theorem dX7_becomesOf_4 : decode cX7_becomesOf 4 = .ok (.bipush 12, 2) := by decide +kernel
theorem dX7_becomesOf_6 : decode cX7_becomesOf 6 = .ok (.iconst 4, 1) := by decide +kernel
theorem dX7_becomesOf_7 : decode cX7_becomesOf 7 = .ok (.iload_n 1, 1) := by decide +kernel
theorem dX7_becomesOf_8 : decode cX7_becomesOf 8 = .ok (.imul, 1) := by decide +kernel
theorem dX7_becomesOf_9 : decode cX7_becomesOf 9 = .ok (.iadd, 1) := by decide +kernel
theorem dX7_becomesOf_10 : decode cX7_becomesOf 10 = .ok (.iload_n 2, 1) := by decide +kernel
theorem dX7_becomesOf_11 : decode cX7_becomesOf 11 = .ok (.iadd, 1) := by decide +kernel
theorem dX7_becomesOf_12 : decode cX7_becomesOf 12 = .ok (.iload_n 3, 1) := by decide +kernel
theorem dX7_becomesOf_13 : decode cX7_becomesOf 13 = .ok (.iastore, 1) := by decide +kernel
theorem dX7_becomesOf_14 : decode cX7_becomesOf 14 = .ok (.return_, 1) := by decide +kernel
theorem dX7_isPaired_0 : decode cX7_isPaired 0 = .ok (.aload_n 0, 1) := by decide +kernel
theorem dX7_isPaired_1 : decode cX7_isPaired 1 = .ok (.iload_n 1, 1) := by decide +kernel
theorem dX7_isPaired_2 : decode cX7_isPaired 2 = .ok (.iconst 3, 1) := by decide +kernel
theorem dX7_isPaired_3 : decode cX7_isPaired 3 = .ok (.invokevirtual 154, 3) := by decide +kernel
theorem dX7_isPaired_6 : decode cX7_isPaired 6 = .ok (.iconst 1, 1) := by decide +kernel
theorem dX7_isPaired_7 : decode cX7_isPaired 7 = .ok (.if_icmp .ne 7, 3) := by decide +kernel
theorem dX7_isPaired_10 : decode cX7_isPaired 10 = .ok (.iconst 1, 1) := by decide +kernel
theorem dX7_isPaired_11 : decode cX7_isPaired 11 = .ok (.goto 4, 3) := by decide +kernel
theorem dX7_isPaired_14 : decode cX7_isPaired 14 = .ok (.iconst 0, 1) := by decide +kernel
theorem dX7_isPaired_15 : decode cX7_isPaired 15 = .ok (.ireturn, 1) := by decide +kernel
theorem dX7_isCold_0 : decode cX7_isCold 0 = .ok (.aload_n 0, 1) := by decide +kernel
theorem dX7_isCold_1 : decode cX7_isCold 1 = .ok (.iload_n 1, 1) := by decide +kernel
theorem dX7_isCold_2 : decode cX7_isCold 2 = .ok (.invokevirtual 157, 3) := by decide +kernel
theorem dX7_isCold_5 : decode cX7_isCold 5 = .ok (.ifCond .ne 16, 3) := by decide +kernel
theorem dX7_isCold_8 : decode cX7_isCold 8 = .ok (.aload_n 0, 1) := by decide +kernel
theorem dX7_isCold_9 : decode cX7_isCold 9 = .ok (.iload_n 1, 1) := by decide +kernel
theorem dX7_isCold_10 : decode cX7_isCold 10 = .ok (.iconst 2, 1) := by decide +kernel
theorem dX7_isCold_11 : decode cX7_isCold 11 = .ok (.invokevirtual 154, 3) := by decide +kernel
theorem dX7_isCold_14 : decode cX7_isCold 14 = .ok (.ifCond .ne 7, 3) := by decide +kernel
theorem dX7_isCold_17 : decode cX7_isCold 17 = .ok (.iconst 1, 1) := by decide +kernel
theorem dX7_isCold_18 : decode cX7_isCold 18 = .ok (.goto 4, 3) := by decide +kernel
theorem dX7_isCold_21 : decode cX7_isCold 21 = .ok (.iconst 0, 1) := by decide +kernel
theorem dX7_isCold_22 : decode cX7_isCold 22 = .ok (.ireturn, 1) := by decide +kernel
theorem dX7_doorOf_0 : decode cX7_doorOf 0 = .ok (.aload_n 0, 1) := by decide +kernel
theorem dX7_doorOf_1 : decode cX7_doorOf 1 = .ok (.iload_n 1, 1) := by decide +kernel
theorem dX7_doorOf_2 : decode cX7_doorOf 2 = .ok (.invokevirtual 157, 3) := by decide +kernel
theorem dX7_doorOf_5 : decode cX7_doorOf 5 = .ok (.ifCond .eq 13, 3) := by decide +kernel
theorem dX7_doorOf_8 : decode cX7_doorOf 8 = .ok (.aload_n 0, 1) := by decide +kernel
theorem dX7_doorOf_9 : decode cX7_doorOf 9 = .ok (.getfield 13, 3) := by decide +kernel
theorem dX7_doorOf_12 : decode cX7_doorOf 12 = .ok (.bipush 28, 2) := by decide +kernel
theorem dX7_doorOf_14 : decode cX7_doorOf 14 = .ok (.iaload, 1) := by decide +kernel
theorem dX7_doorOf_15 : decode cX7_doorOf 15 = .ok (.goto 9, 3) := by decide +kernel
theorem dX7_doorOf_18 : decode cX7_doorOf 18 = .ok (.aload_n 0, 1) := by decide +kernel
theorem dX7_doorOf_19 : decode cX7_doorOf 19 = .ok (.iload_n 1, 1) := by decide +kernel
theorem dX7_doorOf_20 : decode cX7_doorOf 20 = .ok (.iconst 1, 1) := by decide +kernel
theorem dX7_doorOf_21 : decode cX7_doorOf 21 = .ok (.invokevirtual 154, 3) := by decide +kernel
theorem dX7_doorOf_24 : decode cX7_doorOf 24 = .ok (.ireturn, 1) := by decide +kernel
theorem dX7_apart_0 : decode cX7_apart 0 = .ok (.iload_n 0, 1) := by decide +kernel
theorem dX7_apart_1 : decode cX7_apart 1 = .ok (.iload_n 1, 1) := by decide +kernel
theorem dX7_apart_2 : decode cX7_apart 2 = .ok (.if_icmp .le 9, 3) := by decide +kernel
theorem dX7_apart_5 : decode cX7_apart 5 = .ok (.iload_n 0, 1) := by decide +kernel
theorem dX7_apart_6 : decode cX7_apart 6 = .ok (.iload_n 1, 1) := by decide +kernel
theorem dX7_apart_7 : decode cX7_apart 7 = .ok (.isub, 1) := by decide +kernel
theorem dX7_apart_8 : decode cX7_apart 8 = .ok (.goto 6, 3) := by decide +kernel
theorem dX7_apart_11 : decode cX7_apart 11 = .ok (.iload_n 1, 1) := by decide +kernel
theorem dX7_apart_12 : decode cX7_apart 12 = .ok (.iload_n 0, 1) := by decide +kernel
theorem dX7_apart_13 : decode cX7_apart 13 = .ok (.isub, 1) := by decide +kernel
theorem dX7_apart_14 : decode cX7_apart 14 = .ok (.istore_n 2, 1) := by decide +kernel
theorem dX7_apart_15 : decode cX7_apart 15 = .ok (.iload_n 2, 1) := by decide +kernel
theorem dX7_apart_16 : decode cX7_apart 16 = .ok (.bipush 12, 2) := by decide +kernel
theorem dX7_apart_18 : decode cX7_apart 18 = .ok (.iload_n 2, 1) := by decide +kernel
theorem dX7_apart_19 : decode cX7_apart 19 = .ok (.isub, 1) := by decide +kernel
theorem dX7_apart_20 : decode cX7_apart 20 = .ok (.if_icmp .le 10, 3) := by decide +kernel
theorem dX7_apart_23 : decode cX7_apart 23 = .ok (.bipush 12, 2) := by decide +kernel
theorem dX7_apart_25 : decode cX7_apart 25 = .ok (.iload_n 2, 1) := by decide +kernel
theorem dX7_apart_26 : decode cX7_apart 26 = .ok (.isub, 1) := by decide +kernel
theorem dX7_apart_27 : decode cX7_apart 27 = .ok (.goto 4, 3) := by decide +kernel
theorem dX7_apart_30 : decode cX7_apart 30 = .ok (.iload_n 2, 1) := by decide +kernel
theorem dX7_apart_31 : decode cX7_apart 31 = .ok (.ireturn, 1) := by decide +kernel
theorem dX7_stepOf_0 : decode cX7_stepOf 0 = .ok (.aload_n 0, 1) := by decide +kernel
theorem dX7_stepOf_1 : decode cX7_stepOf 1 = .ok (.iload_n 1, 1) := by decide +kernel
theorem dX7_stepOf_2 : decode cX7_stepOf 2 = .ok (.invokevirtual 160, 3) := by decide +kernel
theorem dX7_stepOf_5 : decode cX7_stepOf 5 = .ok (.istore_n 2, 1) := by decide +kernel
theorem dX7_stepOf_6 : decode cX7_stepOf 6 = .ok (.iload_n 2, 1) := by decide +kernel
theorem dX7_stepOf_7 : decode cX7_stepOf 7 = .ok (.iconst 1, 1) := by decide +kernel
theorem dX7_stepOf_8 : decode cX7_stepOf 8 = .ok (.iadd, 1) := by decide +kernel
theorem dX7_stepOf_9 : decode cX7_stepOf 9 = .ok (.bipush 12, 2) := by decide +kernel
theorem dX7_stepOf_11 : decode cX7_stepOf 11 = .ok (.irem, 1) := by decide +kernel
theorem dX7_stepOf_12 : decode cX7_stepOf 12 = .ok (.istore_n 3, 1) := by decide +kernel
theorem dX7_stepOf_13 : decode cX7_stepOf 13 = .ok (.iload_n 2, 1) := by decide +kernel
theorem dX7_stepOf_14 : decode cX7_stepOf 14 = .ok (.bipush 12, 2) := by decide +kernel
theorem dX7_stepOf_16 : decode cX7_stepOf 16 = .ok (.iadd, 1) := by decide +kernel
theorem dX7_stepOf_17 : decode cX7_stepOf 17 = .ok (.iconst 1, 1) := by decide +kernel
theorem dX7_stepOf_18 : decode cX7_stepOf 18 = .ok (.isub, 1) := by decide +kernel
theorem dX7_stepOf_19 : decode cX7_stepOf 19 = .ok (.bipush 12, 2) := by decide +kernel
theorem dX7_stepOf_21 : decode cX7_stepOf 21 = .ok (.irem, 1) := by decide +kernel
theorem dX7_stepOf_22 : decode cX7_stepOf 22 = .ok (.istore 4, 2) := by decide +kernel
theorem dX7_stepOf_24 : decode cX7_stepOf 24 = .ok (.iload 4, 2) := by decide +kernel
theorem dX7_stepOf_26 : decode cX7_stepOf 26 = .ok (.aload_n 0, 1) := by decide +kernel
theorem dX7_stepOf_27 : decode cX7_stepOf 27 = .ok (.getfield 13, 3) := by decide +kernel
theorem dX7_stepOf_30 : decode cX7_stepOf 30 = .ok (.bipush 28, 2) := by decide +kernel
theorem dX7_stepOf_32 : decode cX7_stepOf 32 = .ok (.iaload, 1) := by decide +kernel
theorem dX7_stepOf_33 : decode cX7_stepOf 33 = .ok (.invokestatic 163, 3) := by decide +kernel
theorem dX7_stepOf_36 : decode cX7_stepOf 36 = .ok (.iload_n 3, 1) := by decide +kernel
theorem dX7_stepOf_37 : decode cX7_stepOf 37 = .ok (.aload_n 0, 1) := by decide +kernel
theorem dX7_stepOf_38 : decode cX7_stepOf 38 = .ok (.getfield 13, 3) := by decide +kernel
theorem dX7_stepOf_41 : decode cX7_stepOf 41 = .ok (.bipush 28, 2) := by decide +kernel
theorem dX7_stepOf_43 : decode cX7_stepOf 43 = .ok (.iaload, 1) := by decide +kernel
theorem dX7_stepOf_44 : decode cX7_stepOf 44 = .ok (.invokestatic 163, 3) := by decide +kernel
theorem dX7_stepOf_47 : decode cX7_stepOf 47 = .ok (.isub, 1) := by decide +kernel
theorem dX7_stepOf_48 : decode cX7_stepOf 48 = .ok (.istore 5, 2) := by decide +kernel
theorem dX7_stepOf_50 : decode cX7_stepOf 50 = .ok (.aload_n 0, 1) := by decide +kernel
theorem dX7_stepOf_51 : decode cX7_stepOf 51 = .ok (.iload_n 1, 1) := by decide +kernel
theorem dX7_stepOf_52 : decode cX7_stepOf 52 = .ok (.iconst 0, 1) := by decide +kernel
theorem dX7_stepOf_53 : decode cX7_stepOf 53 = .ok (.invokevirtual 154, 3) := by decide +kernel
theorem dX7_stepOf_56 : decode cX7_stepOf 56 = .ok (.tableswitch 59 1 3 #[28, 35, 47], 28) := by decide +kernel
theorem dX7_stepOf_84 : decode cX7_stepOf 84 = .ok (.iload_n 2, 1) := by decide +kernel
theorem dX7_stepOf_85 : decode cX7_stepOf 85 = .ok (.iconst 2, 1) := by decide +kernel
theorem dX7_stepOf_86 : decode cX7_stepOf 86 = .ok (.iadd, 1) := by decide +kernel
theorem dX7_stepOf_87 : decode cX7_stepOf 87 = .ok (.bipush 12, 2) := by decide +kernel
theorem dX7_stepOf_89 : decode cX7_stepOf 89 = .ok (.irem, 1) := by decide +kernel
theorem dX7_stepOf_90 : decode cX7_stepOf 90 = .ok (.ireturn, 1) := by decide +kernel
theorem dX7_stepOf_91 : decode cX7_stepOf 91 = .ok (.iload 5, 2) := by decide +kernel
theorem dX7_stepOf_93 : decode cX7_stepOf 93 = .ok (.ifCond .le 8, 3) := by decide +kernel
theorem dX7_stepOf_96 : decode cX7_stepOf 96 = .ok (.iload 4, 2) := by decide +kernel
theorem dX7_stepOf_98 : decode cX7_stepOf 98 = .ok (.goto 4, 3) := by decide +kernel
theorem dX7_stepOf_101 : decode cX7_stepOf 101 = .ok (.iload_n 3, 1) := by decide +kernel
theorem dX7_stepOf_102 : decode cX7_stepOf 102 = .ok (.ireturn, 1) := by decide +kernel
theorem dX7_stepOf_103 : decode cX7_stepOf 103 = .ok (.iload 5, 2) := by decide +kernel
theorem dX7_stepOf_105 : decode cX7_stepOf 105 = .ok (.ifCond .ge 8, 3) := by decide +kernel
theorem dX7_stepOf_108 : decode cX7_stepOf 108 = .ok (.iload 4, 2) := by decide +kernel
theorem dX7_stepOf_110 : decode cX7_stepOf 110 = .ok (.goto 4, 3) := by decide +kernel
theorem dX7_stepOf_113 : decode cX7_stepOf 113 = .ok (.iload_n 3, 1) := by decide +kernel
theorem dX7_stepOf_114 : decode cX7_stepOf 114 = .ok (.ireturn, 1) := by decide +kernel
theorem dX7_stepOf_115 : decode cX7_stepOf 115 = .ok (.iload_n 3, 1) := by decide +kernel
theorem dX7_stepOf_116 : decode cX7_stepOf 116 = .ok (.ireturn, 1) := by decide +kernel
theorem dX7_gloveGoes_0 : decode cX7_gloveGoes 0 = .ok (.aload_n 0, 1) := by decide +kernel
theorem dX7_gloveGoes_1 : decode cX7_gloveGoes 1 = .ok (.iload_n 1, 1) := by decide +kernel
theorem dX7_gloveGoes_2 : decode cX7_gloveGoes 2 = .ok (.invokevirtual 157, 3) := by decide +kernel
theorem dX7_gloveGoes_5 : decode cX7_gloveGoes 5 = .ok (.ifCond .eq 23, 3) := by decide +kernel
theorem dX7_gloveGoes_8 : decode cX7_gloveGoes 8 = .ok (.aload_n 0, 1) := by decide +kernel
theorem dX7_gloveGoes_9 : decode cX7_gloveGoes 9 = .ok (.iload_n 1, 1) := by decide +kernel
theorem dX7_gloveGoes_10 : decode cX7_gloveGoes 10 = .ok (.iconst 2, 1) := by decide +kernel
theorem dX7_gloveGoes_11 : decode cX7_gloveGoes 11 = .ok (.bipush 20, 2) := by decide +kernel
theorem dX7_gloveGoes_13 : decode cX7_gloveGoes 13 = .ok (.aload_n 0, 1) := by decide +kernel
theorem dX7_gloveGoes_14 : decode cX7_gloveGoes 14 = .ok (.iload_n 1, 1) := by decide +kernel
theorem dX7_gloveGoes_15 : decode cX7_gloveGoes 15 = .ok (.iconst 2, 1) := by decide +kernel
theorem dX7_gloveGoes_16 : decode cX7_gloveGoes 16 = .ok (.invokevirtual 154, 3) := by decide +kernel
theorem dX7_gloveGoes_19 : decode cX7_gloveGoes 19 = .ok (.iconst 1, 1) := by decide +kernel
theorem dX7_gloveGoes_20 : decode cX7_gloveGoes 20 = .ok (.iadd, 1) := by decide +kernel
theorem dX7_gloveGoes_21 : decode cX7_gloveGoes 21 = .ok (.invokestatic 166, 3) := by decide +kernel
theorem dX7_gloveGoes_24 : decode cX7_gloveGoes 24 = .ok (.invokevirtual 169, 3) := by decide +kernel
theorem dX7_gloveGoes_27 : decode cX7_gloveGoes 27 = .ok (.return_, 1) := by decide +kernel
theorem dX7_gloveGoes_28 : decode cX7_gloveGoes 28 = .ok (.aload_n 0, 1) := by decide +kernel
theorem dX7_gloveGoes_29 : decode cX7_gloveGoes 29 = .ok (.iload_n 1, 1) := by decide +kernel
theorem dX7_gloveGoes_30 : decode cX7_gloveGoes 30 = .ok (.invokevirtual 173, 3) := by decide +kernel
theorem dX7_gloveGoes_33 : decode cX7_gloveGoes 33 = .ok (.ifCond .eq 4, 3) := by decide +kernel
theorem dX7_gloveGoes_36 : decode cX7_gloveGoes 36 = .ok (.return_, 1) := by decide +kernel
theorem dX7_gloveGoes_37 : decode cX7_gloveGoes 37 = .ok (.aload_n 0, 1) := by decide +kernel
theorem dX7_gloveGoes_38 : decode cX7_gloveGoes 38 = .ok (.iload_n 1, 1) := by decide +kernel
theorem dX7_gloveGoes_39 : decode cX7_gloveGoes 39 = .ok (.invokevirtual 176, 3) := by decide +kernel
theorem dX7_gloveGoes_42 : decode cX7_gloveGoes 42 = .ok (.istore_n 2, 1) := by decide +kernel
theorem dX7_gloveGoes_43 : decode cX7_gloveGoes 43 = .ok (.aload_n 0, 1) := by decide +kernel
theorem dX7_gloveGoes_44 : decode cX7_gloveGoes 44 = .ok (.iload_n 1, 1) := by decide +kernel
theorem dX7_gloveGoes_45 : decode cX7_gloveGoes 45 = .ok (.iconst 1, 1) := by decide +kernel
theorem dX7_gloveGoes_46 : decode cX7_gloveGoes 46 = .ok (.iload_n 2, 1) := by decide +kernel
theorem dX7_gloveGoes_47 : decode cX7_gloveGoes 47 = .ok (.invokevirtual 169, 3) := by decide +kernel
theorem dX7_gloveGoes_50 : decode cX7_gloveGoes 50 = .ok (.iload_n 2, 1) := by decide +kernel
theorem dX7_gloveGoes_51 : decode cX7_gloveGoes 51 = .ok (.aload_n 0, 1) := by decide +kernel
theorem dX7_gloveGoes_52 : decode cX7_gloveGoes 52 = .ok (.getfield 13, 3) := by decide +kernel
theorem dX7_gloveGoes_55 : decode cX7_gloveGoes 55 = .ok (.bipush 28, 2) := by decide +kernel
theorem dX7_gloveGoes_57 : decode cX7_gloveGoes 57 = .ok (.iaload, 1) := by decide +kernel
theorem dX7_gloveGoes_58 : decode cX7_gloveGoes 58 = .ok (.if_icmp .ne 13, 3) := by decide +kernel
theorem dX7_gloveGoes_61 : decode cX7_gloveGoes 61 = .ok (.aload_n 0, 1) := by decide +kernel
theorem dX7_gloveGoes_62 : decode cX7_gloveGoes 62 = .ok (.iload_n 1, 1) := by decide +kernel
theorem dX7_gloveGoes_63 : decode cX7_gloveGoes 63 = .ok (.iconst 3, 1) := by decide +kernel
theorem dX7_gloveGoes_64 : decode cX7_gloveGoes 64 = .ok (.iconst 1, 1) := by decide +kernel
theorem dX7_gloveGoes_65 : decode cX7_gloveGoes 65 = .ok (.invokevirtual 169, 3) := by decide +kernel
theorem dX7_gloveGoes_68 : decode cX7_gloveGoes 68 = .ok (.goto 44, 3) := by decide +kernel
theorem dX7_gloveGoes_71 : decode cX7_gloveGoes 71 = .ok (.aload_n 0, 1) := by decide +kernel
theorem dX7_gloveGoes_72 : decode cX7_gloveGoes 72 = .ok (.getfield 13, 3) := by decide +kernel
theorem dX7_gloveGoes_75 : decode cX7_gloveGoes 75 = .ok (.bipush 36, 2) := by decide +kernel
theorem dX7_gloveGoes_77 : decode cX7_gloveGoes 77 = .ok (.sipush 9999, 3) := by decide +kernel
theorem dX7_gloveGoes_80 : decode cX7_gloveGoes 80 = .ok (.aload_n 0, 1) := by decide +kernel
theorem dX7_gloveGoes_81 : decode cX7_gloveGoes 81 = .ok (.getfield 13, 3) := by decide +kernel
theorem dX7_gloveGoes_84 : decode cX7_gloveGoes 84 = .ok (.bipush 36, 2) := by decide +kernel
theorem dX7_gloveGoes_86 : decode cX7_gloveGoes 86 = .ok (.iaload, 1) := by decide +kernel
theorem dX7_gloveGoes_87 : decode cX7_gloveGoes 87 = .ok (.aload_n 0, 1) := by decide +kernel
theorem dX7_gloveGoes_88 : decode cX7_gloveGoes 88 = .ok (.getfield 13, 3) := by decide +kernel
theorem dX7_gloveGoes_91 : decode cX7_gloveGoes 91 = .ok (.iload_n 2, 1) := by decide +kernel
theorem dX7_gloveGoes_92 : decode cX7_gloveGoes 92 = .ok (.iaload, 1) := by decide +kernel
theorem dX7_gloveGoes_93 : decode cX7_gloveGoes 93 = .ok (.iadd, 1) := by decide +kernel
theorem dX7_gloveGoes_94 : decode cX7_gloveGoes 94 = .ok (.invokestatic 166, 3) := by decide +kernel
theorem dX7_gloveGoes_97 : decode cX7_gloveGoes 97 = .ok (.iastore, 1) := by decide +kernel
theorem dX7_gloveGoes_98 : decode cX7_gloveGoes 98 = .ok (.aload_n 0, 1) := by decide +kernel
theorem dX7_gloveGoes_99 : decode cX7_gloveGoes 99 = .ok (.iload_n 1, 1) := by decide +kernel
theorem dX7_gloveGoes_100 : decode cX7_gloveGoes 100 = .ok (.iconst 2, 1) := by decide +kernel
theorem dX7_gloveGoes_101 : decode cX7_gloveGoes 101 = .ok (.aload_n 0, 1) := by decide +kernel
theorem dX7_gloveGoes_102 : decode cX7_gloveGoes 102 = .ok (.iload_n 1, 1) := by decide +kernel
theorem dX7_gloveGoes_103 : decode cX7_gloveGoes 103 = .ok (.iconst 2, 1) := by decide +kernel
theorem dX7_gloveGoes_104 : decode cX7_gloveGoes 104 = .ok (.invokevirtual 154, 3) := by decide +kernel
theorem dX7_gloveGoes_107 : decode cX7_gloveGoes 107 = .ok (.iconst 1, 1) := by decide +kernel
theorem dX7_gloveGoes_108 : decode cX7_gloveGoes 108 = .ok (.isub, 1) := by decide +kernel
theorem dX7_gloveGoes_109 : decode cX7_gloveGoes 109 = .ok (.invokevirtual 169, 3) := by decide +kernel
theorem dX7_gloveGoes_112 : decode cX7_gloveGoes 112 = .ok (.return_, 1) := by decide +kernel
theorem dX7_dayGoesAt_0 : decode cX7_dayGoesAt 0 = .ok (.aload_n 0, 1) := by decide +kernel
theorem dX7_dayGoesAt_1 : decode cX7_dayGoesAt 1 = .ok (.getfield 13, 3) := by decide +kernel
theorem dX7_dayGoesAt_4 : decode cX7_dayGoesAt 4 = .ok (.bipush 28, 2) := by decide +kernel
theorem dX7_dayGoesAt_6 : decode cX7_dayGoesAt 6 = .ok (.iload_n 1, 1) := by decide +kernel
theorem dX7_dayGoesAt_7 : decode cX7_dayGoesAt 7 = .ok (.iastore, 1) := by decide +kernel
theorem dX7_dayGoesAt_8 : decode cX7_dayGoesAt 8 = .ok (.iconst 0, 1) := by decide +kernel
theorem dX7_dayGoesAt_9 : decode cX7_dayGoesAt 9 = .ok (.istore_n 2, 1) := by decide +kernel
theorem dX7_dayGoesAt_10 : decode cX7_dayGoesAt 10 = .ok (.iload_n 2, 1) := by decide +kernel
theorem dX7_dayGoesAt_11 : decode cX7_dayGoesAt 11 = .ok (.aload_n 0, 1) := by decide +kernel
theorem dX7_dayGoesAt_12 : decode cX7_dayGoesAt 12 = .ok (.getfield 67, 3) := by decide +kernel
theorem dX7_dayGoesAt_15 : decode cX7_dayGoesAt 15 = .ok (.if_icmp .ge 14, 3) := by decide +kernel
theorem dX7_dayGoesAt_18 : decode cX7_dayGoesAt 18 = .ok (.aload_n 0, 1) := by decide +kernel
theorem dX7_dayGoesAt_19 : decode cX7_dayGoesAt 19 = .ok (.iload_n 2, 1) := by decide +kernel
theorem dX7_dayGoesAt_20 : decode cX7_dayGoesAt 20 = .ok (.invokevirtual 179, 3) := by decide +kernel
theorem dX7_dayGoesAt_23 : decode cX7_dayGoesAt 23 = .ok (.iinc 2 1, 3) := by decide +kernel
theorem dX7_dayGoesAt_26 : decode cX7_dayGoesAt 26 = .ok (.goto (-16), 3) := by decide +kernel
theorem dX7_dayGoesAt_29 : decode cX7_dayGoesAt 29 = .ok (.aload_n 0, 1) := by decide +kernel
theorem dX7_dayGoesAt_30 : decode cX7_dayGoesAt 30 = .ok (.getfield 13, 3) := by decide +kernel
theorem dX7_dayGoesAt_33 : decode cX7_dayGoesAt 33 = .ok (.bipush 37, 2) := by decide +kernel
theorem dX7_dayGoesAt_35 : decode cX7_dayGoesAt 35 = .ok (.dup2, 1) := by decide +kernel
theorem dX7_dayGoesAt_36 : decode cX7_dayGoesAt 36 = .ok (.iaload, 1) := by decide +kernel
theorem dX7_dayGoesAt_37 : decode cX7_dayGoesAt 37 = .ok (.iconst 1, 1) := by decide +kernel
theorem dX7_dayGoesAt_38 : decode cX7_dayGoesAt 38 = .ok (.iadd, 1) := by decide +kernel
theorem dX7_dayGoesAt_39 : decode cX7_dayGoesAt 39 = .ok (.iastore, 1) := by decide +kernel
theorem dX7_dayGoesAt_40 : decode cX7_dayGoesAt 40 = .ok (.return_, 1) := by decide +kernel
theorem dX7_nextDoor_0 : decode cX7_nextDoor 0 = .ok (.aload_n 0, 1) := by decide +kernel
theorem dX7_nextDoor_1 : decode cX7_nextDoor 1 = .ok (.getfield 13, 3) := by decide +kernel
theorem dX7_nextDoor_4 : decode cX7_nextDoor 4 = .ok (.bipush 29, 2) := by decide +kernel
theorem dX7_nextDoor_6 : decode cX7_nextDoor 6 = .ok (.iaload, 1) := by decide +kernel
theorem dX7_nextDoor_7 : decode cX7_nextDoor 7 = .ok (.ifCond .ne 13, 3) := by decide +kernel
theorem dX7_nextDoor_10 : decode cX7_nextDoor 10 = .ok (.aload_n 0, 1) := by decide +kernel
theorem dX7_nextDoor_11 : decode cX7_nextDoor 11 = .ok (.getfield 13, 3) := by decide +kernel
theorem dX7_nextDoor_14 : decode cX7_nextDoor 14 = .ok (.bipush 28, 2) := by decide +kernel
theorem dX7_nextDoor_16 : decode cX7_nextDoor 16 = .ok (.iaload, 1) := by decide +kernel
theorem dX7_nextDoor_17 : decode cX7_nextDoor 17 = .ok (.goto 26, 3) := by decide +kernel
theorem dX7_nextDoor_20 : decode cX7_nextDoor 20 = .ok (.aload_n 0, 1) := by decide +kernel
theorem dX7_nextDoor_21 : decode cX7_nextDoor 21 = .ok (.getfield 13, 3) := by decide +kernel
theorem dX7_nextDoor_24 : decode cX7_nextDoor 24 = .ok (.bipush 30, 2) := by decide +kernel
theorem dX7_nextDoor_26 : decode cX7_nextDoor 26 = .ok (.aload_n 0, 1) := by decide +kernel
theorem dX7_nextDoor_27 : decode cX7_nextDoor 27 = .ok (.getfield 13, 3) := by decide +kernel
theorem dX7_nextDoor_30 : decode cX7_nextDoor 30 = .ok (.bipush 37, 2) := by decide +kernel
theorem dX7_nextDoor_32 : decode cX7_nextDoor 32 = .ok (.iaload, 1) := by decide +kernel
theorem dX7_nextDoor_33 : decode cX7_nextDoor 33 = .ok (.aload_n 0, 1) := by decide +kernel
theorem dX7_nextDoor_34 : decode cX7_nextDoor 34 = .ok (.getfield 13, 3) := by decide +kernel
theorem dX7_nextDoor_37 : decode cX7_nextDoor 37 = .ok (.bipush 29, 2) := by decide +kernel
theorem dX7_nextDoor_39 : decode cX7_nextDoor 39 = .ok (.iaload, 1) := by decide +kernel
theorem dX7_nextDoor_40 : decode cX7_nextDoor 40 = .ok (.irem, 1) := by decide +kernel
theorem dX7_nextDoor_41 : decode cX7_nextDoor 41 = .ok (.iadd, 1) := by decide +kernel
theorem dX7_nextDoor_42 : decode cX7_nextDoor 42 = .ok (.iaload, 1) := by decide +kernel
theorem dX7_nextDoor_43 : decode cX7_nextDoor 43 = .ok (.ireturn, 1) := by decide +kernel
theorem dX7_daysGo_0 : decode cX7_daysGo 0 = .ok (.iconst 0, 1) := by decide +kernel
theorem dX7_daysGo_1 : decode cX7_daysGo 1 = .ok (.istore_n 2, 1) := by decide +kernel
theorem dX7_daysGo_2 : decode cX7_daysGo 2 = .ok (.iload_n 2, 1) := by decide +kernel
theorem dX7_daysGo_3 : decode cX7_daysGo 3 = .ok (.iload_n 1, 1) := by decide +kernel
theorem dX7_daysGo_4 : decode cX7_daysGo 4 = .ok (.if_icmp .ge 17, 3) := by decide +kernel
theorem dX7_daysGo_7 : decode cX7_daysGo 7 = .ok (.aload_n 0, 1) := by decide +kernel
theorem dX7_daysGo_8 : decode cX7_daysGo 8 = .ok (.aload_n 0, 1) := by decide +kernel
theorem dX7_daysGo_9 : decode cX7_daysGo 9 = .ok (.invokevirtual 182, 3) := by decide +kernel
theorem dX7_daysGo_12 : decode cX7_daysGo 12 = .ok (.invokevirtual 185, 3) := by decide +kernel
theorem dX7_daysGo_15 : decode cX7_daysGo 15 = .ok (.iinc 2 1, 3) := by decide +kernel
theorem dX7_daysGo_18 : decode cX7_daysGo 18 = .ok (.goto (-16), 3) := by decide +kernel
theorem dX7_daysGo_21 : decode cX7_daysGo 21 = .ok (.return_, 1) := by decide +kernel
theorem dX7_nameMore_0 : decode cX7_nameMore 0 = .ok (.aload_n 0, 1) := by decide +kernel
theorem dX7_nameMore_1 : decode cX7_nameMore 1 = .ok (.getfield 13, 3) := by decide +kernel
theorem dX7_nameMore_4 : decode cX7_nameMore 4 = .ok (.bipush 36, 2) := by decide +kernel
theorem dX7_nameMore_6 : decode cX7_nameMore 6 = .ok (.iaload, 1) := by decide +kernel
theorem dX7_nameMore_7 : decode cX7_nameMore 7 = .ok (.aload_n 0, 1) := by decide +kernel
theorem dX7_nameMore_8 : decode cX7_nameMore 8 = .ok (.getfield 7, 3) := by decide +kernel
theorem dX7_nameMore_11 : decode cX7_nameMore 11 = .ok (.bipush 36, 2) := by decide +kernel
theorem dX7_nameMore_13 : decode cX7_nameMore 13 = .ok (.iaload, 1) := by decide +kernel
theorem dX7_nameMore_14 : decode cX7_nameMore 14 = .ok (.isub, 1) := by decide +kernel
theorem dX7_nameMore_15 : decode cX7_nameMore 15 = .ok (.ireturn, 1) := by decide +kernel
theorem dX7_nameBehind_0 : decode cX7_nameBehind 0 = .ok (.aload_n 0, 1) := by decide +kernel
theorem dX7_nameBehind_1 : decode cX7_nameBehind 1 = .ok (.iload_n 1, 1) := by decide +kernel
theorem dX7_nameBehind_2 : decode cX7_nameBehind 2 = .ok (.invokevirtual 188, 3) := by decide +kernel
theorem dX7_nameBehind_5 : decode cX7_nameBehind 5 = .ok (.aload_n 0, 1) := by decide +kernel
theorem dX7_nameBehind_6 : decode cX7_nameBehind 6 = .ok (.invokevirtual 191, 3) := by decide +kernel
theorem dX7_nameBehind_9 : decode cX7_nameBehind 9 = .ok (.ireturn, 1) := by decide +kernel
theorem dX7_pairedNow_0 : decode cX7_pairedNow 0 = .ok (.iconst 0, 1) := by decide +kernel
theorem dX7_pairedNow_1 : decode cX7_pairedNow 1 = .ok (.istore_n 1, 1) := by decide +kernel
theorem dX7_pairedNow_2 : decode cX7_pairedNow 2 = .ok (.iconst 0, 1) := by decide +kernel
theorem dX7_pairedNow_3 : decode cX7_pairedNow 3 = .ok (.istore_n 2, 1) := by decide +kernel
theorem dX7_pairedNow_4 : decode cX7_pairedNow 4 = .ok (.iload_n 2, 1) := by decide +kernel
theorem dX7_pairedNow_5 : decode cX7_pairedNow 5 = .ok (.aload_n 0, 1) := by decide +kernel
theorem dX7_pairedNow_6 : decode cX7_pairedNow 6 = .ok (.getfield 67, 3) := by decide +kernel
theorem dX7_pairedNow_9 : decode cX7_pairedNow 9 = .ok (.if_icmp .ge 22, 3) := by decide +kernel
theorem dX7_pairedNow_12 : decode cX7_pairedNow 12 = .ok (.iload_n 1, 1) := by decide +kernel
theorem dX7_pairedNow_13 : decode cX7_pairedNow 13 = .ok (.aload_n 0, 1) := by decide +kernel
theorem dX7_pairedNow_14 : decode cX7_pairedNow 14 = .ok (.iload_n 2, 1) := by decide +kernel
theorem dX7_pairedNow_15 : decode cX7_pairedNow 15 = .ok (.invokevirtual 157, 3) := by decide +kernel
theorem dX7_pairedNow_18 : decode cX7_pairedNow 18 = .ok (.invokestatic 194, 3) := by decide +kernel
theorem dX7_pairedNow_21 : decode cX7_pairedNow 21 = .ok (.iload_n 2, 1) := by decide +kernel
theorem dX7_pairedNow_22 : decode cX7_pairedNow 22 = .ok (.ishl, 1) := by decide +kernel
theorem dX7_pairedNow_23 : decode cX7_pairedNow 23 = .ok (.ior, 1) := by decide +kernel
theorem dX7_pairedNow_24 : decode cX7_pairedNow 24 = .ok (.istore_n 1, 1) := by decide +kernel
theorem dX7_pairedNow_25 : decode cX7_pairedNow 25 = .ok (.iinc 2 1, 3) := by decide +kernel
theorem dX7_pairedNow_28 : decode cX7_pairedNow 28 = .ok (.goto (-24), 3) := by decide +kernel
theorem dX7_pairedNow_31 : decode cX7_pairedNow 31 = .ok (.iload_n 1, 1) := by decide +kernel
theorem dX7_pairedNow_32 : decode cX7_pairedNow 32 = .ok (.ireturn, 1) := by decide +kernel
theorem dX7_coldNow_0 : decode cX7_coldNow 0 = .ok (.iconst 0, 1) := by decide +kernel
theorem dX7_coldNow_1 : decode cX7_coldNow 1 = .ok (.istore_n 1, 1) := by decide +kernel
theorem dX7_coldNow_2 : decode cX7_coldNow 2 = .ok (.iconst 0, 1) := by decide +kernel
theorem dX7_coldNow_3 : decode cX7_coldNow 3 = .ok (.istore_n 2, 1) := by decide +kernel
theorem dX7_coldNow_4 : decode cX7_coldNow 4 = .ok (.iload_n 2, 1) := by decide +kernel
theorem dX7_coldNow_5 : decode cX7_coldNow 5 = .ok (.aload_n 0, 1) := by decide +kernel
theorem dX7_coldNow_6 : decode cX7_coldNow 6 = .ok (.getfield 67, 3) := by decide +kernel
theorem dX7_coldNow_9 : decode cX7_coldNow 9 = .ok (.if_icmp .ge 22, 3) := by decide +kernel
theorem dX7_coldNow_12 : decode cX7_coldNow 12 = .ok (.iload_n 1, 1) := by decide +kernel
theorem dX7_coldNow_13 : decode cX7_coldNow 13 = .ok (.aload_n 0, 1) := by decide +kernel
theorem dX7_coldNow_14 : decode cX7_coldNow 14 = .ok (.iload_n 2, 1) := by decide +kernel
theorem dX7_coldNow_15 : decode cX7_coldNow 15 = .ok (.invokevirtual 173, 3) := by decide +kernel
theorem dX7_coldNow_18 : decode cX7_coldNow 18 = .ok (.invokestatic 194, 3) := by decide +kernel
theorem dX7_coldNow_21 : decode cX7_coldNow 21 = .ok (.iload_n 2, 1) := by decide +kernel
theorem dX7_coldNow_22 : decode cX7_coldNow 22 = .ok (.ishl, 1) := by decide +kernel
theorem dX7_coldNow_23 : decode cX7_coldNow 23 = .ok (.ior, 1) := by decide +kernel
theorem dX7_coldNow_24 : decode cX7_coldNow 24 = .ok (.istore_n 1, 1) := by decide +kernel
theorem dX7_coldNow_25 : decode cX7_coldNow 25 = .ok (.iinc 2 1, 3) := by decide +kernel
theorem dX7_coldNow_28 : decode cX7_coldNow 28 = .ok (.goto (-24), 3) := by decide +kernel
theorem dX7_coldNow_31 : decode cX7_coldNow 31 = .ok (.iload_n 1, 1) := by decide +kernel
theorem dX7_coldNow_32 : decode cX7_coldNow 32 = .ok (.ireturn, 1) := by decide +kernel
theorem dX7_metMany_0 : decode cX7_metMany 0 = .ok (.iconst 0, 1) := by decide +kernel
theorem dX7_metMany_1 : decode cX7_metMany 1 = .ok (.istore_n 1, 1) := by decide +kernel
theorem dX7_metMany_2 : decode cX7_metMany 2 = .ok (.iconst 0, 1) := by decide +kernel
theorem dX7_metMany_3 : decode cX7_metMany 3 = .ok (.istore_n 2, 1) := by decide +kernel
theorem dX7_metMany_4 : decode cX7_metMany 4 = .ok (.iload_n 2, 1) := by decide +kernel
theorem dX7_metMany_5 : decode cX7_metMany 5 = .ok (.aload_n 0, 1) := by decide +kernel
theorem dX7_metMany_6 : decode cX7_metMany 6 = .ok (.getfield 67, 3) := by decide +kernel
theorem dX7_metMany_9 : decode cX7_metMany 9 = .ok (.if_icmp .ge 20, 3) := by decide +kernel
theorem dX7_metMany_12 : decode cX7_metMany 12 = .ok (.iload_n 1, 1) := by decide +kernel
theorem dX7_metMany_13 : decode cX7_metMany 13 = .ok (.aload_n 0, 1) := by decide +kernel
theorem dX7_metMany_14 : decode cX7_metMany 14 = .ok (.iload_n 2, 1) := by decide +kernel
theorem dX7_metMany_15 : decode cX7_metMany 15 = .ok (.invokevirtual 157, 3) := by decide +kernel
theorem dX7_metMany_18 : decode cX7_metMany 18 = .ok (.invokestatic 194, 3) := by decide +kernel
theorem dX7_metMany_21 : decode cX7_metMany 21 = .ok (.iadd, 1) := by decide +kernel
theorem dX7_metMany_22 : decode cX7_metMany 22 = .ok (.istore_n 1, 1) := by decide +kernel
theorem dX7_metMany_23 : decode cX7_metMany 23 = .ok (.iinc 2 1, 3) := by decide +kernel
theorem dX7_metMany_26 : decode cX7_metMany 26 = .ok (.goto (-22), 3) := by decide +kernel
theorem dX7_metMany_29 : decode cX7_metMany 29 = .ok (.iload_n 1, 1) := by decide +kernel
theorem dX7_metMany_30 : decode cX7_metMany 30 = .ok (.ireturn, 1) := by decide +kernel
theorem dX7_metBehind_0 : decode cX7_metBehind 0 = .ok (.aload_n 0, 1) := by decide +kernel
theorem dX7_metBehind_1 : decode cX7_metBehind 1 = .ok (.iload_n 1, 1) := by decide +kernel
theorem dX7_metBehind_2 : decode cX7_metBehind 2 = .ok (.invokevirtual 188, 3) := by decide +kernel
theorem dX7_metBehind_5 : decode cX7_metBehind 5 = .ok (.aload_n 0, 1) := by decide +kernel
theorem dX7_metBehind_6 : decode cX7_metBehind 6 = .ok (.invokevirtual 198, 3) := by decide +kernel
theorem dX7_metBehind_9 : decode cX7_metBehind 9 = .ok (.ireturn, 1) := by decide +kernel
theorem dX7_rule_0 : decode cX7_rule 0 = .ok (.aload_n 0, 1) := by decide +kernel
theorem dX7_rule_1 : decode cX7_rule 1 = .ok (.invokevirtual 201, 3) := by decide +kernel
theorem dX7_rule_4 : decode cX7_rule 4 = .ok (.iload_n 1, 1) := by decide +kernel
theorem dX7_rule_5 : decode cX7_rule 5 = .ok (.tableswitch 90 0 6 #[43, 48, 56, 64, 72, 77, 82], 43) := by decide +kernel
theorem dX7_rule_48 : decode cX7_rule 48 = .ok (.aload_n 0, 1) := by decide +kernel
theorem dX7_rule_49 : decode cX7_rule 49 = .ok (.getfield 67, 3) := by decide +kernel
theorem dX7_rule_52 : decode cX7_rule 52 = .ok (.ireturn, 1) := by decide +kernel
theorem dX7_rule_53 : decode cX7_rule 53 = .ok (.aload_n 0, 1) := by decide +kernel
theorem dX7_rule_54 : decode cX7_rule 54 = .ok (.getfield 7, 3) := by decide +kernel
theorem dX7_rule_57 : decode cX7_rule 57 = .ok (.bipush 37, 2) := by decide +kernel
theorem dX7_rule_59 : decode cX7_rule 59 = .ok (.iaload, 1) := by decide +kernel
theorem dX7_rule_60 : decode cX7_rule 60 = .ok (.ireturn, 1) := by decide +kernel
theorem dX7_rule_61 : decode cX7_rule 61 = .ok (.aload_n 0, 1) := by decide +kernel
theorem dX7_rule_62 : decode cX7_rule 62 = .ok (.getfield 7, 3) := by decide +kernel
theorem dX7_rule_65 : decode cX7_rule 65 = .ok (.bipush 28, 2) := by decide +kernel
theorem dX7_rule_67 : decode cX7_rule 67 = .ok (.iaload, 1) := by decide +kernel
theorem dX7_rule_68 : decode cX7_rule 68 = .ok (.ireturn, 1) := by decide +kernel
theorem dX7_rule_69 : decode cX7_rule 69 = .ok (.aload_n 0, 1) := by decide +kernel
theorem dX7_rule_70 : decode cX7_rule 70 = .ok (.getfield 7, 3) := by decide +kernel
theorem dX7_rule_73 : decode cX7_rule 73 = .ok (.bipush 36, 2) := by decide +kernel
theorem dX7_rule_75 : decode cX7_rule 75 = .ok (.iaload, 1) := by decide +kernel
theorem dX7_rule_76 : decode cX7_rule 76 = .ok (.ireturn, 1) := by decide +kernel
theorem dX7_rule_77 : decode cX7_rule 77 = .ok (.aload_n 0, 1) := by decide +kernel
theorem dX7_rule_78 : decode cX7_rule 78 = .ok (.invokevirtual 204, 3) := by decide +kernel
theorem dX7_rule_81 : decode cX7_rule 81 = .ok (.ireturn, 1) := by decide +kernel
theorem dX7_rule_82 : decode cX7_rule 82 = .ok (.aload_n 0, 1) := by decide +kernel
theorem dX7_rule_83 : decode cX7_rule 83 = .ok (.invokevirtual 207, 3) := by decide +kernel
theorem dX7_rule_86 : decode cX7_rule 86 = .ok (.ireturn, 1) := by decide +kernel
theorem dX7_rule_87 : decode cX7_rule 87 = .ok (.aload_n 0, 1) := by decide +kernel
theorem dX7_rule_88 : decode cX7_rule 88 = .ok (.getfield 7, 3) := by decide +kernel
theorem dX7_rule_91 : decode cX7_rule 91 = .ok (.bipush 29, 2) := by decide +kernel
theorem dX7_rule_93 : decode cX7_rule 93 = .ok (.iaload, 1) := by decide +kernel
theorem dX7_rule_94 : decode cX7_rule 94 = .ok (.ireturn, 1) := by decide +kernel
theorem dX7_rule_95 : decode cX7_rule 95 = .ok (.iconst (-1), 1) := by decide +kernel
theorem dX7_rule_96 : decode cX7_rule 96 = .ok (.ireturn, 1) := by decide +kernel
theorem dX7_glove_0 : decode cX7_glove 0 = .ok (.aload_n 0, 1) := by decide +kernel
theorem dX7_glove_1 : decode cX7_glove 1 = .ok (.iload_n 1, 1) := by decide +kernel
theorem dX7_glove_2 : decode cX7_glove 2 = .ok (.invokevirtual 210, 3) := by decide +kernel
theorem dX7_glove_5 : decode cX7_glove 5 = .ok (.ifCond .ne 5, 3) := by decide +kernel
theorem dX7_glove_8 : decode cX7_glove 8 = .ok (.iconst (-1), 1) := by decide +kernel
theorem dX7_glove_9 : decode cX7_glove 9 = .ok (.ireturn, 1) := by decide +kernel
theorem dX7_glove_10 : decode cX7_glove 10 = .ok (.aload_n 0, 1) := by decide +kernel
theorem dX7_glove_11 : decode cX7_glove 11 = .ok (.invokevirtual 201, 3) := by decide +kernel
theorem dX7_glove_14 : decode cX7_glove 14 = .ok (.iload_n 2, 1) := by decide +kernel
theorem dX7_glove_15 : decode cX7_glove 15 = .ok (.tableswitch 72 0 5 #[37, 44, 37, 37, 50, 66], 37) := by decide +kernel
theorem dX7_glove_52 : decode cX7_glove 52 = .ok (.aload_n 0, 1) := by decide +kernel
theorem dX7_glove_53 : decode cX7_glove 53 = .ok (.iload_n 1, 1) := by decide +kernel
theorem dX7_glove_54 : decode cX7_glove 54 = .ok (.iload_n 2, 1) := by decide +kernel
theorem dX7_glove_55 : decode cX7_glove 55 = .ok (.invokevirtual 154, 3) := by decide +kernel
theorem dX7_glove_58 : decode cX7_glove 58 = .ok (.ireturn, 1) := by decide +kernel
theorem dX7_glove_59 : decode cX7_glove 59 = .ok (.aload_n 0, 1) := by decide +kernel
theorem dX7_glove_60 : decode cX7_glove 60 = .ok (.iload_n 1, 1) := by decide +kernel
theorem dX7_glove_61 : decode cX7_glove 61 = .ok (.invokevirtual 160, 3) := by decide +kernel
theorem dX7_glove_64 : decode cX7_glove 64 = .ok (.ireturn, 1) := by decide +kernel
theorem dX7_glove_65 : decode cX7_glove 65 = .ok (.aload_n 0, 1) := by decide +kernel
theorem dX7_glove_66 : decode cX7_glove 66 = .ok (.iload_n 1, 1) := by decide +kernel
theorem dX7_glove_67 : decode cX7_glove 67 = .ok (.invokevirtual 160, 3) := by decide +kernel
theorem dX7_glove_70 : decode cX7_glove 70 = .ok (.aload_n 0, 1) := by decide +kernel
theorem dX7_glove_71 : decode cX7_glove 71 = .ok (.getfield 13, 3) := by decide +kernel
theorem dX7_glove_74 : decode cX7_glove 74 = .ok (.bipush 28, 2) := by decide +kernel
theorem dX7_glove_76 : decode cX7_glove 76 = .ok (.iaload, 1) := by decide +kernel
theorem dX7_glove_77 : decode cX7_glove 77 = .ok (.invokestatic 163, 3) := by decide +kernel
theorem dX7_glove_80 : decode cX7_glove 80 = .ok (.ireturn, 1) := by decide +kernel
theorem dX7_glove_81 : decode cX7_glove 81 = .ok (.aload_n 0, 1) := by decide +kernel
theorem dX7_glove_82 : decode cX7_glove 82 = .ok (.iload_n 1, 1) := by decide +kernel
theorem dX7_glove_83 : decode cX7_glove 83 = .ok (.invokevirtual 176, 3) := by decide +kernel
theorem dX7_glove_86 : decode cX7_glove 86 = .ok (.ireturn, 1) := by decide +kernel
theorem dX7_glove_87 : decode cX7_glove 87 = .ok (.iconst (-1), 1) := by decide +kernel
theorem dX7_glove_88 : decode cX7_glove 88 = .ok (.ireturn, 1) := by decide +kernel
theorem dX7_door_0 : decode cX7_door 0 = .ok (.iload_n 1, 1) := by decide +kernel
theorem dX7_door_1 : decode cX7_door 1 = .ok (.invokestatic 213, 3) := by decide +kernel
theorem dX7_door_4 : decode cX7_door 4 = .ok (.ifCond .eq 10, 3) := by decide +kernel
theorem dX7_door_7 : decode cX7_door 7 = .ok (.iload_n 2, 1) := by decide +kernel
theorem dX7_door_8 : decode cX7_door 8 = .ok (.invokestatic 216, 3) := by decide +kernel
theorem dX7_door_11 : decode cX7_door 11 = .ok (.ifCond .ne 5, 3) := by decide +kernel
theorem dX7_door_14 : decode cX7_door 14 = .ok (.iconst (-1), 1) := by decide +kernel
theorem dX7_door_15 : decode cX7_door 15 = .ok (.ireturn, 1) := by decide +kernel
theorem dX7_door_16 : decode cX7_door 16 = .ok (.iconst 0, 1) := by decide +kernel
theorem dX7_door_17 : decode cX7_door 17 = .ok (.istore_n 3, 1) := by decide +kernel
theorem dX7_door_18 : decode cX7_door 18 = .ok (.aload_n 0, 1) := by decide +kernel
theorem dX7_door_19 : decode cX7_door 19 = .ok (.invokevirtual 201, 3) := by decide +kernel
theorem dX7_door_22 : decode cX7_door 22 = .ok (.iconst 0, 1) := by decide +kernel
theorem dX7_door_23 : decode cX7_door 23 = .ok (.istore 4, 2) := by decide +kernel
theorem dX7_door_25 : decode cX7_door 25 = .ok (.iload 4, 2) := by decide +kernel
theorem dX7_door_27 : decode cX7_door 27 = .ok (.aload_n 0, 1) := by decide +kernel
theorem dX7_door_28 : decode cX7_door 28 = .ok (.getfield 67, 3) := by decide +kernel
theorem dX7_door_31 : decode cX7_door 31 = .ok (.if_icmp .ge 33, 3) := by decide +kernel
theorem dX7_door_34 : decode cX7_door 34 = .ok (.iload_n 3, 1) := by decide +kernel
theorem dX7_door_35 : decode cX7_door 35 = .ok (.aload_n 0, 1) := by decide +kernel
theorem dX7_door_36 : decode cX7_door 36 = .ok (.iload 4, 2) := by decide +kernel
theorem dX7_door_38 : decode cX7_door 38 = .ok (.invokevirtual 160, 3) := by decide +kernel
theorem dX7_door_41 : decode cX7_door 41 = .ok (.iload_n 1, 1) := by decide +kernel
theorem dX7_door_42 : decode cX7_door 42 = .ok (.if_icmp .ne 7, 3) := by decide +kernel
theorem dX7_door_45 : decode cX7_door 45 = .ok (.iconst 1, 1) := by decide +kernel
theorem dX7_door_46 : decode cX7_door 46 = .ok (.goto 4, 3) := by decide +kernel
theorem dX7_door_49 : decode cX7_door 49 = .ok (.iconst 0, 1) := by decide +kernel
theorem dX7_door_50 : decode cX7_door 50 = .ok (.invokestatic 194, 3) := by decide +kernel
theorem dX7_door_53 : decode cX7_door 53 = .ok (.iload 4, 2) := by decide +kernel
theorem dX7_door_55 : decode cX7_door 55 = .ok (.ishl, 1) := by decide +kernel
theorem dX7_door_56 : decode cX7_door 56 = .ok (.ior, 1) := by decide +kernel
theorem dX7_door_57 : decode cX7_door 57 = .ok (.istore_n 3, 1) := by decide +kernel
theorem dX7_door_58 : decode cX7_door 58 = .ok (.iinc 4 1, 3) := by decide +kernel
theorem dX7_door_61 : decode cX7_door 61 = .ok (.goto (-36), 3) := by decide +kernel
theorem dX7_door_64 : decode cX7_door 64 = .ok (.iload_n 2, 1) := by decide +kernel
theorem dX7_door_65 : decode cX7_door 65 = .ok (.ifCond .ne 12, 3) := by decide +kernel
theorem dX7_door_68 : decode cX7_door 68 = .ok (.aload_n 0, 1) := by decide +kernel
theorem dX7_door_69 : decode cX7_door 69 = .ok (.getfield 7, 3) := by decide +kernel
theorem dX7_door_72 : decode cX7_door 72 = .ok (.iload_n 1, 1) := by decide +kernel
theorem dX7_door_73 : decode cX7_door 73 = .ok (.iaload, 1) := by decide +kernel
theorem dX7_door_74 : decode cX7_door 74 = .ok (.goto 4, 3) := by decide +kernel
theorem dX7_door_77 : decode cX7_door 77 = .ok (.iload_n 3, 1) := by decide +kernel
theorem dX7_door_78 : decode cX7_door 78 = .ok (.ireturn, 1) := by decide +kernel
theorem dX7_stop_0 : decode cX7_stop 0 = .ok (.aload_n 0, 1) := by decide +kernel
theorem dX7_stop_1 : decode cX7_stop 1 = .ok (.iload_n 1, 1) := by decide +kernel
theorem dX7_stop_2 : decode cX7_stop 2 = .ok (.invokevirtual 219, 3) := by decide +kernel
theorem dX7_stop_5 : decode cX7_stop 5 = .ok (.ifCond .eq 15, 3) := by decide +kernel
theorem dX7_stop_8 : decode cX7_stop 8 = .ok (.aload_n 0, 1) := by decide +kernel
theorem dX7_stop_9 : decode cX7_stop 9 = .ok (.getfield 7, 3) := by decide +kernel
theorem dX7_stop_12 : decode cX7_stop 12 = .ok (.bipush 30, 2) := by decide +kernel
theorem dX7_stop_14 : decode cX7_stop 14 = .ok (.iload_n 1, 1) := by decide +kernel
theorem dX7_stop_15 : decode cX7_stop 15 = .ok (.iadd, 1) := by decide +kernel
theorem dX7_stop_16 : decode cX7_stop 16 = .ok (.iaload, 1) := by decide +kernel
theorem dX7_stop_17 : decode cX7_stop 17 = .ok (.goto 4, 3) := by decide +kernel
theorem dX7_stop_20 : decode cX7_stop 20 = .ok (.iconst (-1), 1) := by decide +kernel
theorem dX7_stop_21 : decode cX7_stop 21 = .ok (.ireturn, 1) := by decide +kernel
theorem dX7_becomes_0 : decode cX7_becomes 0 = .ok (.aload_n 0, 1) := by decide +kernel
theorem dX7_becomes_1 : decode cX7_becomes 1 = .ok (.getfield 7, 3) := by decide +kernel
theorem dX7_becomes_4 : decode cX7_becomes 4 = .ok (.iload_n 1, 1) := by decide +kernel
theorem dX7_becomes_5 : decode cX7_becomes 5 = .ok (.iaload, 1) := by decide +kernel
theorem dX7_becomes_6 : decode cX7_becomes 6 = .ok (.istore_n 3, 1) := by decide +kernel
theorem dX7_becomes_7 : decode cX7_becomes 7 = .ok (.aload_n 0, 1) := by decide +kernel
theorem dX7_becomes_8 : decode cX7_becomes 8 = .ok (.getfield 7, 3) := by decide +kernel
theorem dX7_becomes_11 : decode cX7_becomes 11 = .ok (.iload_n 1, 1) := by decide +kernel
theorem dX7_becomes_12 : decode cX7_becomes 12 = .ok (.iload_n 2, 1) := by decide +kernel
theorem dX7_becomes_13 : decode cX7_becomes 13 = .ok (.iastore, 1) := by decide +kernel
theorem dX7_becomes_14 : decode cX7_becomes 14 = .ok (.iload_n 3, 1) := by decide +kernel
theorem dX7_becomes_15 : decode cX7_becomes 15 = .ok (.ireturn, 1) := by decide +kernel
theorem dX7_wasPaired_0 : decode cX7_wasPaired 0 = .ok (.aload_n 0, 1) := by decide +kernel
theorem dX7_wasPaired_1 : decode cX7_wasPaired 1 = .ok (.getfield 7, 3) := by decide +kernel
theorem dX7_wasPaired_4 : decode cX7_wasPaired 4 = .ok (.bipush 12, 2) := by decide +kernel
theorem dX7_wasPaired_6 : decode cX7_wasPaired 6 = .ok (.iconst 4, 1) := by decide +kernel
theorem dX7_wasPaired_7 : decode cX7_wasPaired 7 = .ok (.iload_n 1, 1) := by decide +kernel
theorem dX7_wasPaired_8 : decode cX7_wasPaired 8 = .ok (.imul, 1) := by decide +kernel
theorem dX7_wasPaired_9 : decode cX7_wasPaired 9 = .ok (.iadd, 1) := by decide +kernel
theorem dX7_wasPaired_10 : decode cX7_wasPaired 10 = .ok (.iconst 3, 1) := by decide +kernel
theorem dX7_wasPaired_11 : decode cX7_wasPaired 11 = .ok (.iadd, 1) := by decide +kernel
theorem dX7_wasPaired_12 : decode cX7_wasPaired 12 = .ok (.iaload, 1) := by decide +kernel
theorem dX7_wasPaired_13 : decode cX7_wasPaired 13 = .ok (.iconst 1, 1) := by decide +kernel
theorem dX7_wasPaired_14 : decode cX7_wasPaired 14 = .ok (.if_icmp .ne 7, 3) := by decide +kernel
theorem dX7_wasPaired_17 : decode cX7_wasPaired 17 = .ok (.iconst 1, 1) := by decide +kernel
theorem dX7_wasPaired_18 : decode cX7_wasPaired 18 = .ok (.goto 4, 3) := by decide +kernel
theorem dX7_wasPaired_21 : decode cX7_wasPaired 21 = .ok (.iconst 0, 1) := by decide +kernel
theorem dX7_wasPaired_22 : decode cX7_wasPaired 22 = .ok (.ireturn, 1) := by decide +kernel
theorem dX7_alter_0 : decode cX7_alter 0 = .ok (.iload_n 2, 1) := by decide +kernel
theorem dX7_alter_1 : decode cX7_alter 1 = .ok (.ifCond .ne 15, 3) := by decide +kernel
theorem dX7_alter_4 : decode cX7_alter 4 = .ok (.iload_n 3, 1) := by decide +kernel
theorem dX7_alter_5 : decode cX7_alter 5 = .ok (.i2l, 1) := by decide +kernel
theorem dX7_alter_6 : decode cX7_alter 6 = .ok (.lconst 0, 1) := by decide +kernel
theorem dX7_alter_7 : decode cX7_alter 7 = .ok (.ldc2_w 222, 3) := by decide +kernel
theorem dX7_alter_10 : decode cX7_alter 10 = .ok (.invokestatic 72, 3) := by decide +kernel
theorem dX7_alter_13 : decode cX7_alter 13 = .ok (.goto 37, 3) := by decide +kernel
theorem dX7_alter_16 : decode cX7_alter 16 = .ok (.iload_n 2, 1) := by decide +kernel
theorem dX7_alter_17 : decode cX7_alter 17 = .ok (.iconst 1, 1) := by decide +kernel
theorem dX7_alter_18 : decode cX7_alter 18 = .ok (.if_icmp .ne 10, 3) := by decide +kernel
theorem dX7_alter_21 : decode cX7_alter 21 = .ok (.iload_n 3, 1) := by decide +kernel
theorem dX7_alter_22 : decode cX7_alter 22 = .ok (.invokestatic 213, 3) := by decide +kernel
theorem dX7_alter_25 : decode cX7_alter 25 = .ok (.goto 25, 3) := by decide +kernel
theorem dX7_alter_28 : decode cX7_alter 28 = .ok (.iload_n 2, 1) := by decide +kernel
theorem dX7_alter_29 : decode cX7_alter 29 = .ok (.iconst 2, 1) := by decide +kernel
theorem dX7_alter_30 : decode cX7_alter 30 = .ok (.if_icmp .ne 19, 3) := by decide +kernel
theorem dX7_alter_33 : decode cX7_alter 33 = .ok (.iload_n 3, 1) := by decide +kernel
theorem dX7_alter_34 : decode cX7_alter 34 = .ok (.i2l, 1) := by decide +kernel
theorem dX7_alter_35 : decode cX7_alter 35 = .ok (.lconst 0, 1) := by decide +kernel
theorem dX7_alter_36 : decode cX7_alter 36 = .ok (.ldc2_w 224, 3) := by decide +kernel
theorem dX7_alter_39 : decode cX7_alter 39 = .ok (.invokestatic 72, 3) := by decide +kernel
theorem dX7_alter_42 : decode cX7_alter 42 = .ok (.ifCond .eq 7, 3) := by decide +kernel
theorem dX7_alter_45 : decode cX7_alter 45 = .ok (.iconst 1, 1) := by decide +kernel
theorem dX7_alter_46 : decode cX7_alter 46 = .ok (.goto 4, 3) := by decide +kernel
theorem dX7_alter_49 : decode cX7_alter 49 = .ok (.iconst 0, 1) := by decide +kernel
theorem dX7_alter_50 : decode cX7_alter 50 = .ok (.istore 4, 2) := by decide +kernel
theorem dX7_alter_52 : decode cX7_alter 52 = .ok (.aload_n 0, 1) := by decide +kernel
theorem dX7_alter_53 : decode cX7_alter 53 = .ok (.iload_n 1, 1) := by decide +kernel
theorem dX7_alter_54 : decode cX7_alter 54 = .ok (.invokevirtual 210, 3) := by decide +kernel
theorem dX7_alter_57 : decode cX7_alter 57 = .ok (.ifCond .eq 8, 3) := by decide +kernel
theorem dX7_alter_60 : decode cX7_alter 60 = .ok (.iload 4, 2) := by decide +kernel
theorem dX7_alter_62 : decode cX7_alter 62 = .ok (.ifCond .ne 5, 3) := by decide +kernel
theorem dX7_alter_65 : decode cX7_alter 65 = .ok (.iconst (-1), 1) := by decide +kernel
theorem dX7_alter_66 : decode cX7_alter 66 = .ok (.ireturn, 1) := by decide +kernel
theorem dX7_alter_67 : decode cX7_alter 67 = .ok (.iload_n 2, 1) := by decide +kernel
theorem dX7_alter_68 : decode cX7_alter 68 = .ok (.iconst 1, 1) := by decide +kernel
theorem dX7_alter_69 : decode cX7_alter 69 = .ok (.if_icmp .ne 16, 3) := by decide +kernel
theorem dX7_alter_72 : decode cX7_alter 72 = .ok (.aload_n 0, 1) := by decide +kernel
theorem dX7_alter_73 : decode cX7_alter 73 = .ok (.iload_n 1, 1) := by decide +kernel
theorem dX7_alter_74 : decode cX7_alter 74 = .ok (.invokevirtual 226, 3) := by decide +kernel
theorem dX7_alter_77 : decode cX7_alter 77 = .ok (.ifCond .eq 8, 3) := by decide +kernel
theorem dX7_alter_80 : decode cX7_alter 80 = .ok (.bipush (-2), 2) := by decide +kernel
theorem dX7_alter_82 : decode cX7_alter 82 = .ok (.goto 16, 3) := by decide +kernel
theorem dX7_alter_85 : decode cX7_alter 85 = .ok (.aload_n 0, 1) := by decide +kernel
theorem dX7_alter_86 : decode cX7_alter 86 = .ok (.bipush 12, 2) := by decide +kernel
theorem dX7_alter_88 : decode cX7_alter 88 = .ok (.iconst 4, 1) := by decide +kernel
theorem dX7_alter_89 : decode cX7_alter 89 = .ok (.iload_n 1, 1) := by decide +kernel
theorem dX7_alter_90 : decode cX7_alter 90 = .ok (.imul, 1) := by decide +kernel
theorem dX7_alter_91 : decode cX7_alter 91 = .ok (.iadd, 1) := by decide +kernel
theorem dX7_alter_92 : decode cX7_alter 92 = .ok (.iload_n 2, 1) := by decide +kernel
theorem dX7_alter_93 : decode cX7_alter 93 = .ok (.iadd, 1) := by decide +kernel
theorem dX7_alter_94 : decode cX7_alter 94 = .ok (.iload_n 3, 1) := by decide +kernel
theorem dX7_alter_95 : decode cX7_alter 95 = .ok (.invokevirtual 229, 3) := by decide +kernel
theorem dX7_alter_98 : decode cX7_alter 98 = .ok (.ireturn, 1) := by decide +kernel
theorem dX7_fame_0 : decode cX7_fame 0 = .ok (.iload_n 1, 1) := by decide +kernel
theorem dX7_fame_1 : decode cX7_fame 1 = .ok (.invokestatic 213, 3) := by decide +kernel
theorem dX7_fame_4 : decode cX7_fame 4 = .ok (.ifCond .eq 24, 3) := by decide +kernel
theorem dX7_fame_7 : decode cX7_fame 7 = .ok (.iload_n 2, 1) := by decide +kernel
theorem dX7_fame_8 : decode cX7_fame 8 = .ok (.i2l, 1) := by decide +kernel
theorem dX7_fame_9 : decode cX7_fame 9 = .ok (.lconst 0, 1) := by decide +kernel
theorem dX7_fame_10 : decode cX7_fame 10 = .ok (.ldc2_w 232, 3) := by decide +kernel
theorem dX7_fame_13 : decode cX7_fame 13 = .ok (.invokestatic 72, 3) := by decide +kernel
theorem dX7_fame_16 : decode cX7_fame 16 = .ok (.ifCond .eq 12, 3) := by decide +kernel
theorem dX7_fame_19 : decode cX7_fame 19 = .ok (.aload_n 0, 1) := by decide +kernel
theorem dX7_fame_20 : decode cX7_fame 20 = .ok (.iload_n 1, 1) := by decide +kernel
theorem dX7_fame_21 : decode cX7_fame 21 = .ok (.iload_n 2, 1) := by decide +kernel
theorem dX7_fame_22 : decode cX7_fame 22 = .ok (.invokevirtual 229, 3) := by decide +kernel
theorem dX7_fame_25 : decode cX7_fame 25 = .ok (.goto 4, 3) := by decide +kernel
theorem dX7_fame_28 : decode cX7_fame 28 = .ok (.iconst (-1), 1) := by decide +kernel
theorem dX7_fame_29 : decode cX7_fame 29 = .ok (.ireturn, 1) := by decide +kernel
theorem dX7_leave_0 : decode cX7_leave 0 = .ok (.aload_n 0, 1) := by decide +kernel
theorem dX7_leave_1 : decode cX7_leave 1 = .ok (.iload_n 1, 1) := by decide +kernel
theorem dX7_leave_2 : decode cX7_leave 2 = .ok (.invokevirtual 210, 3) := by decide +kernel
theorem dX7_leave_5 : decode cX7_leave 5 = .ok (.ifCond .ne 5, 3) := by decide +kernel
theorem dX7_leave_8 : decode cX7_leave 8 = .ok (.iconst (-1), 1) := by decide +kernel
theorem dX7_leave_9 : decode cX7_leave 9 = .ok (.ireturn, 1) := by decide +kernel
theorem dX7_leave_10 : decode cX7_leave 10 = .ok (.aload_n 0, 1) := by decide +kernel
theorem dX7_leave_11 : decode cX7_leave 11 = .ok (.iload_n 1, 1) := by decide +kernel
theorem dX7_leave_12 : decode cX7_leave 12 = .ok (.invokevirtual 226, 3) := by decide +kernel
theorem dX7_leave_15 : decode cX7_leave 15 = .ok (.ifCond .ne 6, 3) := by decide +kernel
theorem dX7_leave_18 : decode cX7_leave 18 = .ok (.bipush (-2), 2) := by decide +kernel
theorem dX7_leave_20 : decode cX7_leave 20 = .ok (.ireturn, 1) := by decide +kernel
theorem dX7_leave_21 : decode cX7_leave 21 = .ok (.aload_n 0, 1) := by decide +kernel
theorem dX7_leave_22 : decode cX7_leave 22 = .ok (.getfield 7, 3) := by decide +kernel
theorem dX7_leave_25 : decode cX7_leave 25 = .ok (.bipush 12, 2) := by decide +kernel
theorem dX7_leave_27 : decode cX7_leave 27 = .ok (.iconst 4, 1) := by decide +kernel
theorem dX7_leave_28 : decode cX7_leave 28 = .ok (.iload_n 1, 1) := by decide +kernel
theorem dX7_leave_29 : decode cX7_leave 29 = .ok (.imul, 1) := by decide +kernel
theorem dX7_leave_30 : decode cX7_leave 30 = .ok (.iadd, 1) := by decide +kernel
theorem dX7_leave_31 : decode cX7_leave 31 = .ok (.iconst 3, 1) := by decide +kernel
theorem dX7_leave_32 : decode cX7_leave 32 = .ok (.iadd, 1) := by decide +kernel
theorem dX7_leave_33 : decode cX7_leave 33 = .ok (.iconst 0, 1) := by decide +kernel
theorem dX7_leave_34 : decode cX7_leave 34 = .ok (.iastore, 1) := by decide +kernel
theorem dX7_leave_35 : decode cX7_leave 35 = .ok (.aload_n 0, 1) := by decide +kernel
theorem dX7_leave_36 : decode cX7_leave 36 = .ok (.getfield 7, 3) := by decide +kernel
theorem dX7_leave_39 : decode cX7_leave 39 = .ok (.bipush 12, 2) := by decide +kernel
theorem dX7_leave_41 : decode cX7_leave 41 = .ok (.iconst 4, 1) := by decide +kernel
theorem dX7_leave_42 : decode cX7_leave 42 = .ok (.iload_n 1, 1) := by decide +kernel
theorem dX7_leave_43 : decode cX7_leave 43 = .ok (.imul, 1) := by decide +kernel
theorem dX7_leave_44 : decode cX7_leave 44 = .ok (.iadd, 1) := by decide +kernel
theorem dX7_leave_45 : decode cX7_leave 45 = .ok (.iconst 1, 1) := by decide +kernel
theorem dX7_leave_46 : decode cX7_leave 46 = .ok (.iadd, 1) := by decide +kernel
theorem dX7_leave_47 : decode cX7_leave 47 = .ok (.aload_n 0, 1) := by decide +kernel
theorem dX7_leave_48 : decode cX7_leave 48 = .ok (.getfield 7, 3) := by decide +kernel
theorem dX7_leave_51 : decode cX7_leave 51 = .ok (.bipush 28, 2) := by decide +kernel
theorem dX7_leave_53 : decode cX7_leave 53 = .ok (.iaload, 1) := by decide +kernel
theorem dX7_leave_54 : decode cX7_leave 54 = .ok (.iastore, 1) := by decide +kernel
theorem dX7_leave_55 : decode cX7_leave 55 = .ok (.aload_n 0, 1) := by decide +kernel
theorem dX7_leave_56 : decode cX7_leave 56 = .ok (.getfield 7, 3) := by decide +kernel
theorem dX7_leave_59 : decode cX7_leave 59 = .ok (.bipush 28, 2) := by decide +kernel
theorem dX7_leave_61 : decode cX7_leave 61 = .ok (.iaload, 1) := by decide +kernel
theorem dX7_leave_62 : decode cX7_leave 62 = .ok (.ireturn, 1) := by decide +kernel
theorem dX7_go_0 : decode cX7_go 0 = .ok (.iload_n 1, 1) := by decide +kernel
theorem dX7_go_1 : decode cX7_go 1 = .ok (.invokestatic 213, 3) := by decide +kernel
theorem dX7_go_4 : decode cX7_go 4 = .ok (.ifCond .eq 13, 3) := by decide +kernel
theorem dX7_go_7 : decode cX7_go 7 = .ok (.aload_n 0, 1) := by decide +kernel
theorem dX7_go_8 : decode cX7_go 8 = .ok (.bipush 28, 2) := by decide +kernel
theorem dX7_go_10 : decode cX7_go 10 = .ok (.iload_n 1, 1) := by decide +kernel
theorem dX7_go_11 : decode cX7_go 11 = .ok (.invokevirtual 229, 3) := by decide +kernel
theorem dX7_go_14 : decode cX7_go 14 = .ok (.goto 4, 3) := by decide +kernel
theorem dX7_go_17 : decode cX7_go 17 = .ok (.iconst (-1), 1) := by decide +kernel
theorem dX7_go_18 : decode cX7_go 18 = .ok (.ireturn, 1) := by decide +kernel
theorem dX7_call_0 : decode cX7_call 0 = .ok (.iload_n 1, 1) := by decide +kernel
theorem dX7_call_1 : decode cX7_call 1 = .ok (.invokestatic 213, 3) := by decide +kernel
theorem dX7_call_4 : decode cX7_call 4 = .ok (.ifCond .ne 5, 3) := by decide +kernel
theorem dX7_call_7 : decode cX7_call 7 = .ok (.iconst (-1), 1) := by decide +kernel
theorem dX7_call_8 : decode cX7_call 8 = .ok (.ireturn, 1) := by decide +kernel
theorem dX7_call_9 : decode cX7_call 9 = .ok (.aload_n 0, 1) := by decide +kernel
theorem dX7_call_10 : decode cX7_call 10 = .ok (.getfield 7, 3) := by decide +kernel
theorem dX7_call_13 : decode cX7_call 13 = .ok (.bipush 29, 2) := by decide +kernel
theorem dX7_call_15 : decode cX7_call 15 = .ok (.iaload, 1) := by decide +kernel
theorem dX7_call_16 : decode cX7_call 16 = .ok (.bipush 6, 2) := by decide +kernel
theorem dX7_call_18 : decode cX7_call 18 = .ok (.if_icmp .ne 6, 3) := by decide +kernel
theorem dX7_call_21 : decode cX7_call 21 = .ok (.bipush (-3), 2) := by decide +kernel
theorem dX7_call_23 : decode cX7_call 23 = .ok (.ireturn, 1) := by decide +kernel
theorem dX7_call_24 : decode cX7_call 24 = .ok (.aload_n 0, 1) := by decide +kernel
theorem dX7_call_25 : decode cX7_call 25 = .ok (.getfield 7, 3) := by decide +kernel
theorem dX7_call_28 : decode cX7_call 28 = .ok (.bipush 30, 2) := by decide +kernel
theorem dX7_call_30 : decode cX7_call 30 = .ok (.aload_n 0, 1) := by decide +kernel
theorem dX7_call_31 : decode cX7_call 31 = .ok (.getfield 7, 3) := by decide +kernel
theorem dX7_call_34 : decode cX7_call 34 = .ok (.bipush 29, 2) := by decide +kernel
theorem dX7_call_36 : decode cX7_call 36 = .ok (.iaload, 1) := by decide +kernel
theorem dX7_call_37 : decode cX7_call 37 = .ok (.iadd, 1) := by decide +kernel
theorem dX7_call_38 : decode cX7_call 38 = .ok (.iload_n 1, 1) := by decide +kernel
theorem dX7_call_39 : decode cX7_call 39 = .ok (.iastore, 1) := by decide +kernel
theorem dX7_call_40 : decode cX7_call 40 = .ok (.aload_n 0, 1) := by decide +kernel
theorem dX7_call_41 : decode cX7_call 41 = .ok (.getfield 7, 3) := by decide +kernel
theorem dX7_call_44 : decode cX7_call 44 = .ok (.bipush 29, 2) := by decide +kernel
theorem dX7_call_46 : decode cX7_call 46 = .ok (.dup2, 1) := by decide +kernel
theorem dX7_call_47 : decode cX7_call 47 = .ok (.iaload, 1) := by decide +kernel
theorem dX7_call_48 : decode cX7_call 48 = .ok (.iconst 1, 1) := by decide +kernel
theorem dX7_call_49 : decode cX7_call 49 = .ok (.iadd, 1) := by decide +kernel
theorem dX7_call_50 : decode cX7_call 50 = .ok (.iastore, 1) := by decide +kernel
theorem dX7_call_51 : decode cX7_call 51 = .ok (.aload_n 0, 1) := by decide +kernel
theorem dX7_call_52 : decode cX7_call 52 = .ok (.getfield 7, 3) := by decide +kernel
theorem dX7_call_55 : decode cX7_call 55 = .ok (.bipush 29, 2) := by decide +kernel
theorem dX7_call_57 : decode cX7_call 57 = .ok (.iaload, 1) := by decide +kernel
theorem dX7_call_58 : decode cX7_call 58 = .ok (.ireturn, 1) := by decide +kernel
theorem dX7_cut_0 : decode cX7_cut 0 = .ok (.iload_n 1, 1) := by decide +kernel
theorem dX7_cut_1 : decode cX7_cut 1 = .ok (.i2l, 1) := by decide +kernel
theorem dX7_cut_2 : decode cX7_cut 2 = .ok (.lconst 0, 1) := by decide +kernel
theorem dX7_cut_3 : decode cX7_cut 3 = .ok (.aload_n 0, 1) := by decide +kernel
theorem dX7_cut_4 : decode cX7_cut 4 = .ok (.getfield 7, 3) := by decide +kernel
theorem dX7_cut_7 : decode cX7_cut 7 = .ok (.bipush 29, 2) := by decide +kernel
theorem dX7_cut_9 : decode cX7_cut 9 = .ok (.iaload, 1) := by decide +kernel
theorem dX7_cut_10 : decode cX7_cut 10 = .ok (.i2l, 1) := by decide +kernel
theorem dX7_cut_11 : decode cX7_cut 11 = .ok (.invokestatic 72, 3) := by decide +kernel
theorem dX7_cut_14 : decode cX7_cut 14 = .ok (.ifCond .eq 13, 3) := by decide +kernel
theorem dX7_cut_17 : decode cX7_cut 17 = .ok (.aload_n 0, 1) := by decide +kernel
theorem dX7_cut_18 : decode cX7_cut 18 = .ok (.bipush 29, 2) := by decide +kernel
theorem dX7_cut_20 : decode cX7_cut 20 = .ok (.iload_n 1, 1) := by decide +kernel
theorem dX7_cut_21 : decode cX7_cut 21 = .ok (.invokevirtual 229, 3) := by decide +kernel
theorem dX7_cut_24 : decode cX7_cut 24 = .ok (.goto 4, 3) := by decide +kernel
theorem dX7_cut_27 : decode cX7_cut 27 = .ok (.iconst (-1), 1) := by decide +kernel
theorem dX7_cut_28 : decode cX7_cut 28 = .ok (.ireturn, 1) := by decide +kernel
theorem dX7_days_0 : decode cX7_days 0 = .ok (.iload_n 1, 1) := by decide +kernel
theorem dX7_days_1 : decode cX7_days 1 = .ok (.i2l, 1) := by decide +kernel
theorem dX7_days_2 : decode cX7_days 2 = .ok (.lconst 0, 1) := by decide +kernel
theorem dX7_days_3 : decode cX7_days 3 = .ok (.ldc2_w 234, 3) := by decide +kernel
theorem dX7_days_6 : decode cX7_days 6 = .ok (.invokestatic 72, 3) := by decide +kernel
theorem dX7_days_9 : decode cX7_days 9 = .ok (.ifCond .ne 5, 3) := by decide +kernel
theorem dX7_days_12 : decode cX7_days 12 = .ok (.iconst (-1), 1) := by decide +kernel
theorem dX7_days_13 : decode cX7_days 13 = .ok (.ireturn, 1) := by decide +kernel
theorem dX7_days_14 : decode cX7_days 14 = .ok (.aload_n 0, 1) := by decide +kernel
theorem dX7_days_15 : decode cX7_days 15 = .ok (.getfield 7, 3) := by decide +kernel
theorem dX7_days_18 : decode cX7_days 18 = .ok (.bipush 37, 2) := by decide +kernel
theorem dX7_days_20 : decode cX7_days 20 = .ok (.iaload, 1) := by decide +kernel
theorem dX7_days_21 : decode cX7_days 21 = .ok (.iload_n 1, 1) := by decide +kernel
theorem dX7_days_22 : decode cX7_days 22 = .ok (.iadd, 1) := by decide +kernel
theorem dX7_days_23 : decode cX7_days 23 = .ok (.sipush 999, 3) := by decide +kernel
theorem dX7_days_26 : decode cX7_days 26 = .ok (.if_icmp .le 6, 3) := by decide +kernel
theorem dX7_days_29 : decode cX7_days 29 = .ok (.bipush (-3), 2) := by decide +kernel
theorem dX7_days_31 : decode cX7_days 31 = .ok (.ireturn, 1) := by decide +kernel
theorem dX7_days_32 : decode cX7_days 32 = .ok (.aload_n 0, 1) := by decide +kernel
theorem dX7_days_33 : decode cX7_days 33 = .ok (.invokevirtual 201, 3) := by decide +kernel
theorem dX7_days_36 : decode cX7_days 36 = .ok (.aload_n 0, 1) := by decide +kernel
theorem dX7_days_37 : decode cX7_days 37 = .ok (.iload_n 1, 1) := by decide +kernel
theorem dX7_days_38 : decode cX7_days 38 = .ok (.invokevirtual 236, 3) := by decide +kernel
theorem dX7_days_41 : decode cX7_days 41 = .ok (.istore_n 2, 1) := by decide +kernel
theorem dX7_days_42 : decode cX7_days 42 = .ok (.aload_n 0, 1) := by decide +kernel
theorem dX7_days_43 : decode cX7_days 43 = .ok (.invokevirtual 239, 3) := by decide +kernel
theorem dX7_days_46 : decode cX7_days 46 = .ok (.iload_n 2, 1) := by decide +kernel
theorem dX7_days_47 : decode cX7_days 47 = .ok (.ireturn, 1) := by decide +kernel
theorem dX7_isFar_0 : decode cX7_isFar 0 = .ok (.iload_n 0, 1) := by decide +kernel
theorem dX7_isFar_1 : decode cX7_isFar 1 = .ok (.i2l, 1) := by decide +kernel
theorem dX7_isFar_2 : decode cX7_isFar 2 = .ok (.lconst 0, 1) := by decide +kernel
theorem dX7_isFar_3 : decode cX7_isFar 3 = .ok (.ldc2_w 242, 3) := by decide +kernel
theorem dX7_isFar_6 : decode cX7_isFar 6 = .ok (.invokestatic 72, 3) := by decide +kernel
theorem dX7_isFar_9 : decode cX7_isFar 9 = .ok (.ireturn, 1) := by decide +kernel
theorem dX7_runs_0 : decode cX7_runs 0 = .ok (.iload_n 1, 1) := by decide +kernel
theorem dX7_runs_1 : decode cX7_runs 1 = .ok (.invokestatic 244, 3) := by decide +kernel
theorem dX7_runs_4 : decode cX7_runs 4 = .ok (.ifCond .eq 15, 3) := by decide +kernel
theorem dX7_runs_7 : decode cX7_runs 7 = .ok (.iload_n 2, 1) := by decide +kernel
theorem dX7_runs_8 : decode cX7_runs 8 = .ok (.i2l, 1) := by decide +kernel
theorem dX7_runs_9 : decode cX7_runs 9 = .ok (.lconst 0, 1) := by decide +kernel
theorem dX7_runs_10 : decode cX7_runs 10 = .ok (.ldc2_w 247, 3) := by decide +kernel
theorem dX7_runs_13 : decode cX7_runs 13 = .ok (.invokestatic 72, 3) := by decide +kernel
theorem dX7_runs_16 : decode cX7_runs 16 = .ok (.ifCond .ne 5, 3) := by decide +kernel
theorem dX7_runs_19 : decode cX7_runs 19 = .ok (.iconst (-1), 1) := by decide +kernel
theorem dX7_runs_20 : decode cX7_runs 20 = .ok (.ireturn, 1) := by decide +kernel
theorem dX7_runs_21 : decode cX7_runs 21 = .ok (.bipush (-4), 2) := by decide +kernel
theorem dX7_runs_23 : decode cX7_runs 23 = .ok (.istore_n 3, 1) := by decide +kernel
theorem dX7_runs_24 : decode cX7_runs 24 = .ok (.aload_n 0, 1) := by decide +kernel
theorem dX7_runs_25 : decode cX7_runs 25 = .ok (.invokevirtual 201, 3) := by decide +kernel
theorem dX7_runs_28 : decode cX7_runs 28 = .ok (.aload_n 0, 1) := by decide +kernel
theorem dX7_runs_29 : decode cX7_runs 29 = .ok (.invokevirtual 204, 3) := by decide +kernel
theorem dX7_runs_32 : decode cX7_runs 32 = .ok (.istore 4, 2) := by decide +kernel
theorem dX7_runs_34 : decode cX7_runs 34 = .ok (.iconst 1, 1) := by decide +kernel
theorem dX7_runs_35 : decode cX7_runs 35 = .ok (.istore 5, 2) := by decide +kernel
theorem dX7_runs_37 : decode cX7_runs 37 = .ok (.iload 5, 2) := by decide +kernel
theorem dX7_runs_39 : decode cX7_runs 39 = .ok (.iload_n 1, 1) := by decide +kernel
theorem dX7_runs_40 : decode cX7_runs 40 = .ok (.if_icmp .gt 36, 3) := by decide +kernel
theorem dX7_runs_43 : decode cX7_runs 43 = .ok (.aload_n 0, 1) := by decide +kernel
theorem dX7_runs_44 : decode cX7_runs 44 = .ok (.iconst 1, 1) := by decide +kernel
theorem dX7_runs_45 : decode cX7_runs 45 = .ok (.invokevirtual 188, 3) := by decide +kernel
theorem dX7_runs_48 : decode cX7_runs 48 = .ok (.iload_n 3, 1) := by decide +kernel
theorem dX7_runs_49 : decode cX7_runs 49 = .ok (.bipush (-4), 2) := by decide +kernel
theorem dX7_runs_51 : decode cX7_runs 51 = .ok (.if_icmp .ne 17, 3) := by decide +kernel
theorem dX7_runs_54 : decode cX7_runs 54 = .ok (.aload_n 0, 1) := by decide +kernel
theorem dX7_runs_55 : decode cX7_runs 55 = .ok (.invokevirtual 204, 3) := by decide +kernel
theorem dX7_runs_58 : decode cX7_runs 58 = .ok (.iload 4, 2) := by decide +kernel
theorem dX7_runs_60 : decode cX7_runs 60 = .ok (.if_icmp .eq 8, 3) := by decide +kernel
theorem dX7_runs_63 : decode cX7_runs 63 = .ok (.iload 5, 2) := by decide +kernel
theorem dX7_runs_65 : decode cX7_runs 65 = .ok (.goto 4, 3) := by decide +kernel
theorem dX7_runs_68 : decode cX7_runs 68 = .ok (.iload_n 3, 1) := by decide +kernel
theorem dX7_runs_69 : decode cX7_runs 69 = .ok (.istore_n 3, 1) := by decide +kernel
theorem dX7_runs_70 : decode cX7_runs 70 = .ok (.iinc 5 1, 3) := by decide +kernel
theorem dX7_runs_73 : decode cX7_runs 73 = .ok (.goto (-36), 3) := by decide +kernel
theorem dX7_runs_76 : decode cX7_runs 76 = .ok (.iload_n 2, 1) := by decide +kernel
theorem dX7_runs_77 : decode cX7_runs 77 = .ok (.tableswitch 54 0 3 #[31, 36, 41, 46], 31) := by decide +kernel
theorem dX7_runs_108 : decode cX7_runs 108 = .ok (.aload_n 0, 1) := by decide +kernel
theorem dX7_runs_109 : decode cX7_runs 109 = .ok (.invokevirtual 191, 3) := by decide +kernel
theorem dX7_runs_112 : decode cX7_runs 112 = .ok (.ireturn, 1) := by decide +kernel
theorem dX7_runs_113 : decode cX7_runs 113 = .ok (.aload_n 0, 1) := by decide +kernel
theorem dX7_runs_114 : decode cX7_runs 114 = .ok (.invokevirtual 204, 3) := by decide +kernel
theorem dX7_runs_117 : decode cX7_runs 117 = .ok (.ireturn, 1) := by decide +kernel
end
section
theorem dX7_runs_118 : decode cX7_runs 118 = .ok (.aload_n 0, 1) := by decide +kernel
theorem dX7_runs_119 : decode cX7_runs 119 = .ok (.invokevirtual 207, 3) := by decide +kernel
theorem dX7_runs_122 : decode cX7_runs 122 = .ok (.ireturn, 1) := by decide +kernel
theorem dX7_runs_123 : decode cX7_runs 123 = .ok (.aload_n 0, 1) := by decide +kernel
theorem dX7_runs_124 : decode cX7_runs 124 = .ok (.getfield 13, 3) := by decide +kernel
theorem dX7_runs_127 : decode cX7_runs 127 = .ok (.bipush 28, 2) := by decide +kernel
theorem dX7_runs_129 : decode cX7_runs 129 = .ok (.iaload, 1) := by decide +kernel
theorem dX7_runs_130 : decode cX7_runs 130 = .ok (.ireturn, 1) := by decide +kernel
theorem dX7_runs_131 : decode cX7_runs 131 = .ok (.iload_n 3, 1) := by decide +kernel
theorem dX7_runs_132 : decode cX7_runs 132 = .ok (.ireturn, 1) := by decide +kernel
theorem dX7_ahead_0 : decode cX7_ahead 0 = .ok (.aload_n 0, 1) := by decide +kernel
theorem dX7_ahead_1 : decode cX7_ahead 1 = .ok (.iload_n 1, 1) := by decide +kernel
theorem dX7_ahead_2 : decode cX7_ahead 2 = .ok (.invokevirtual 210, 3) := by decide +kernel
theorem dX7_ahead_5 : decode cX7_ahead 5 = .ok (.ifCond .eq 17, 3) := by decide +kernel
theorem dX7_ahead_8 : decode cX7_ahead 8 = .ok (.iload_n 2, 1) := by decide +kernel
theorem dX7_ahead_9 : decode cX7_ahead 9 = .ok (.invokestatic 244, 3) := by decide +kernel
theorem dX7_ahead_12 : decode cX7_ahead 12 = .ok (.ifCond .eq 10, 3) := by decide +kernel
theorem dX7_ahead_15 : decode cX7_ahead 15 = .ok (.iload_n 3, 1) := by decide +kernel
theorem dX7_ahead_16 : decode cX7_ahead 16 = .ok (.invokestatic 216, 3) := by decide +kernel
theorem dX7_ahead_19 : decode cX7_ahead 19 = .ok (.ifCond .ne 5, 3) := by decide +kernel
theorem dX7_ahead_22 : decode cX7_ahead 22 = .ok (.iconst (-1), 1) := by decide +kernel
theorem dX7_ahead_23 : decode cX7_ahead 23 = .ok (.ireturn, 1) := by decide +kernel
theorem dX7_ahead_24 : decode cX7_ahead 24 = .ok (.aload_n 0, 1) := by decide +kernel
theorem dX7_ahead_25 : decode cX7_ahead 25 = .ok (.invokevirtual 201, 3) := by decide +kernel
theorem dX7_ahead_28 : decode cX7_ahead 28 = .ok (.aload_n 0, 1) := by decide +kernel
theorem dX7_ahead_29 : decode cX7_ahead 29 = .ok (.iload_n 2, 1) := by decide +kernel
theorem dX7_ahead_30 : decode cX7_ahead 30 = .ok (.invokevirtual 188, 3) := by decide +kernel
theorem dX7_ahead_33 : decode cX7_ahead 33 = .ok (.iload_n 3, 1) := by decide +kernel
theorem dX7_ahead_34 : decode cX7_ahead 34 = .ok (.ifCond .ne 11, 3) := by decide +kernel
theorem dX7_ahead_37 : decode cX7_ahead 37 = .ok (.aload_n 0, 1) := by decide +kernel
theorem dX7_ahead_38 : decode cX7_ahead 38 = .ok (.iload_n 1, 1) := by decide +kernel
theorem dX7_ahead_39 : decode cX7_ahead 39 = .ok (.invokevirtual 160, 3) := by decide +kernel
theorem dX7_ahead_42 : decode cX7_ahead 42 = .ok (.goto 9, 3) := by decide +kernel
theorem dX7_ahead_45 : decode cX7_ahead 45 = .ok (.aload_n 0, 1) := by decide +kernel
theorem dX7_ahead_46 : decode cX7_ahead 46 = .ok (.iload_n 1, 1) := by decide +kernel
theorem dX7_ahead_47 : decode cX7_ahead 47 = .ok (.iconst 2, 1) := by decide +kernel
theorem dX7_ahead_48 : decode cX7_ahead 48 = .ok (.invokevirtual 154, 3) := by decide +kernel
theorem dX7_ahead_51 : decode cX7_ahead 51 = .ok (.ireturn, 1) := by decide +kernel
theorem dX7_meets_0 : decode cX7_meets 0 = .ok (.aload_n 0, 1) := by decide +kernel
theorem dX7_meets_1 : decode cX7_meets 1 = .ok (.iload_n 1, 1) := by decide +kernel
theorem dX7_meets_2 : decode cX7_meets 2 = .ok (.invokevirtual 210, 3) := by decide +kernel
theorem dX7_meets_5 : decode cX7_meets 5 = .ok (.ifCond .ne 5, 3) := by decide +kernel
theorem dX7_meets_8 : decode cX7_meets 8 = .ok (.iconst (-1), 1) := by decide +kernel
theorem dX7_meets_9 : decode cX7_meets 9 = .ok (.ireturn, 1) := by decide +kernel
theorem dX7_meets_10 : decode cX7_meets 10 = .ok (.aload_n 0, 1) := by decide +kernel
theorem dX7_meets_11 : decode cX7_meets 11 = .ok (.invokevirtual 201, 3) := by decide +kernel
theorem dX7_meets_14 : decode cX7_meets 14 = .ok (.iconst 0, 1) := by decide +kernel
theorem dX7_meets_15 : decode cX7_meets 15 = .ok (.istore_n 2, 1) := by decide +kernel
theorem dX7_meets_16 : decode cX7_meets 16 = .ok (.iload_n 2, 1) := by decide +kernel
theorem dX7_meets_17 : decode cX7_meets 17 = .ok (.bipush 60, 2) := by decide +kernel
theorem dX7_meets_19 : decode cX7_meets 19 = .ok (.if_icmp .gt 24, 3) := by decide +kernel
theorem dX7_meets_22 : decode cX7_meets 22 = .ok (.aload_n 0, 1) := by decide +kernel
theorem dX7_meets_23 : decode cX7_meets 23 = .ok (.iload_n 1, 1) := by decide +kernel
theorem dX7_meets_24 : decode cX7_meets 24 = .ok (.invokevirtual 157, 3) := by decide +kernel
theorem dX7_meets_27 : decode cX7_meets 27 = .ok (.ifCond .eq 5, 3) := by decide +kernel
theorem dX7_meets_30 : decode cX7_meets 30 = .ok (.iload_n 2, 1) := by decide +kernel
theorem dX7_meets_31 : decode cX7_meets 31 = .ok (.ireturn, 1) := by decide +kernel
theorem dX7_meets_32 : decode cX7_meets 32 = .ok (.aload_n 0, 1) := by decide +kernel
theorem dX7_meets_33 : decode cX7_meets 33 = .ok (.iconst 1, 1) := by decide +kernel
theorem dX7_meets_34 : decode cX7_meets 34 = .ok (.invokevirtual 188, 3) := by decide +kernel
theorem dX7_meets_37 : decode cX7_meets 37 = .ok (.iinc 2 1, 3) := by decide +kernel
theorem dX7_meets_40 : decode cX7_meets 40 = .ok (.goto (-24), 3) := by decide +kernel
theorem dX7_meets_43 : decode cX7_meets 43 = .ok (.bipush (-4), 2) := by decide +kernel
theorem dX7_meets_45 : decode cX7_meets 45 = .ok (.ireturn, 1) := by decide +kernel
theorem dX7_startsJudging_0 : decode cX7_startsJudging 0 = .ok (.aload_n 0, 1) := by decide +kernel
theorem dX7_startsJudging_1 : decode cX7_startsJudging 1 = .ok (.bipush (-4), 2) := by decide +kernel
theorem dX7_startsJudging_3 : decode cX7_startsJudging 3 = .ok (.putfield 249, 3) := by decide +kernel
theorem dX7_startsJudging_6 : decode cX7_startsJudging 6 = .ok (.aload_n 0, 1) := by decide +kernel
theorem dX7_startsJudging_7 : decode cX7_startsJudging 7 = .ok (.iload_n 1, 1) := by decide +kernel
theorem dX7_startsJudging_8 : decode cX7_startsJudging 8 = .ok (.putfield 252, 3) := by decide +kernel
theorem dX7_startsJudging_11 : decode cX7_startsJudging 11 = .ok (.return_, 1) := by decide +kernel
theorem dX7_judges_0 : decode cX7_judges 0 = .ok (.aload_n 0, 1) := by decide +kernel
theorem dX7_judges_1 : decode cX7_judges 1 = .ok (.iload_n 2, 1) := by decide +kernel
theorem dX7_judges_2 : decode cX7_judges 2 = .ok (.aload_n 0, 1) := by decide +kernel
theorem dX7_judges_3 : decode cX7_judges 3 = .ok (.getfield 252, 3) := by decide +kernel
theorem dX7_judges_6 : decode cX7_judges 6 = .ok (.if_icmp .le 7, 3) := by decide +kernel
theorem dX7_judges_9 : decode cX7_judges 9 = .ok (.iload_n 1, 1) := by decide +kernel
theorem dX7_judges_10 : decode cX7_judges 10 = .ok (.goto 7, 3) := by decide +kernel
theorem dX7_judges_13 : decode cX7_judges 13 = .ok (.aload_n 0, 1) := by decide +kernel
theorem dX7_judges_14 : decode cX7_judges 14 = .ok (.getfield 249, 3) := by decide +kernel
theorem dX7_judges_17 : decode cX7_judges 17 = .ok (.putfield 249, 3) := by decide +kernel
theorem dX7_judges_20 : decode cX7_judges 20 = .ok (.aload_n 0, 1) := by decide +kernel
theorem dX7_judges_21 : decode cX7_judges 21 = .ok (.iload_n 2, 1) := by decide +kernel
theorem dX7_judges_22 : decode cX7_judges 22 = .ok (.aload_n 0, 1) := by decide +kernel
theorem dX7_judges_23 : decode cX7_judges 23 = .ok (.getfield 252, 3) := by decide +kernel
theorem dX7_judges_26 : decode cX7_judges 26 = .ok (.if_icmp .le 7, 3) := by decide +kernel
theorem dX7_judges_29 : decode cX7_judges 29 = .ok (.iload_n 2, 1) := by decide +kernel
theorem dX7_judges_30 : decode cX7_judges 30 = .ok (.goto 7, 3) := by decide +kernel
theorem dX7_judges_33 : decode cX7_judges 33 = .ok (.aload_n 0, 1) := by decide +kernel
theorem dX7_judges_34 : decode cX7_judges 34 = .ok (.getfield 252, 3) := by decide +kernel
theorem dX7_judges_37 : decode cX7_judges 37 = .ok (.putfield 252, 3) := by decide +kernel
theorem dX7_judges_40 : decode cX7_judges 40 = .ok (.return_, 1) := by decide +kernel
theorem dX7_judged_0 : decode cX7_judged 0 = .ok (.aload_n 0, 1) := by decide +kernel
theorem dX7_judged_1 : decode cX7_judged 1 = .ok (.getfield 249, 3) := by decide +kernel
theorem dX7_judged_4 : decode cX7_judged 4 = .ok (.bipush (-4), 2) := by decide +kernel
theorem dX7_judged_6 : decode cX7_judged 6 = .ok (.if_icmp .ne 8, 3) := by decide +kernel
theorem dX7_judged_9 : decode cX7_judged 9 = .ok (.bipush (-4), 2) := by decide +kernel
theorem dX7_judged_11 : decode cX7_judged 11 = .ok (.goto 18, 3) := by decide +kernel
theorem dX7_judged_14 : decode cX7_judged 14 = .ok (.iload_n 1, 1) := by decide +kernel
theorem dX7_judged_15 : decode cX7_judged 15 = .ok (.ifCond .ne 10, 3) := by decide +kernel
theorem dX7_judged_18 : decode cX7_judged 18 = .ok (.aload_n 0, 1) := by decide +kernel
theorem dX7_judged_19 : decode cX7_judged 19 = .ok (.getfield 249, 3) := by decide +kernel
theorem dX7_judged_22 : decode cX7_judged 22 = .ok (.goto 7, 3) := by decide +kernel
theorem dX7_judged_25 : decode cX7_judged 25 = .ok (.aload_n 0, 1) := by decide +kernel
theorem dX7_judged_26 : decode cX7_judged 26 = .ok (.getfield 252, 3) := by decide +kernel
theorem dX7_judged_29 : decode cX7_judged 29 = .ok (.ireturn, 1) := by decide +kernel
theorem dX7_place_0 : decode cX7_place 0 = .ok (.aload_n 0, 1) := by decide +kernel
theorem dX7_place_1 : decode cX7_place 1 = .ok (.iload_n 1, 1) := by decide +kernel
theorem dX7_place_2 : decode cX7_place 2 = .ok (.invokevirtual 219, 3) := by decide +kernel
theorem dX7_place_5 : decode cX7_place 5 = .ok (.ifCond .eq 17, 3) := by decide +kernel
theorem dX7_place_8 : decode cX7_place 8 = .ok (.iload_n 2, 1) := by decide +kernel
theorem dX7_place_9 : decode cX7_place 9 = .ok (.invokestatic 244, 3) := by decide +kernel
theorem dX7_place_12 : decode cX7_place 12 = .ok (.ifCond .eq 10, 3) := by decide +kernel
theorem dX7_place_15 : decode cX7_place 15 = .ok (.iload_n 3, 1) := by decide +kernel
theorem dX7_place_16 : decode cX7_place 16 = .ok (.invokestatic 216, 3) := by decide +kernel
theorem dX7_place_19 : decode cX7_place 19 = .ok (.ifCond .ne 5, 3) := by decide +kernel
theorem dX7_place_22 : decode cX7_place 22 = .ok (.iconst (-1), 1) := by decide +kernel
theorem dX7_place_23 : decode cX7_place 23 = .ok (.ireturn, 1) := by decide +kernel
theorem dX7_place_24 : decode cX7_place 24 = .ok (.aload_n 0, 1) := by decide +kernel
theorem dX7_place_25 : decode cX7_place 25 = .ok (.iconst (-1), 1) := by decide +kernel
theorem dX7_place_26 : decode cX7_place 26 = .ok (.invokevirtual 255, 3) := by decide +kernel
theorem dX7_place_29 : decode cX7_place 29 = .ok (.iconst 0, 1) := by decide +kernel
theorem dX7_place_30 : decode cX7_place 30 = .ok (.istore 4, 2) := by decide +kernel
theorem dX7_place_32 : decode cX7_place 32 = .ok (.iload 4, 2) := by decide +kernel
theorem dX7_place_34 : decode cX7_place 34 = .ok (.bipush 12, 2) := by decide +kernel
theorem dX7_place_36 : decode cX7_place 36 = .ok (.if_icmp .ge 35, 3) := by decide +kernel
theorem dX7_place_39 : decode cX7_place 39 = .ok (.aload_n 0, 1) := by decide +kernel
theorem dX7_place_40 : decode cX7_place 40 = .ok (.invokevirtual 201, 3) := by decide +kernel
theorem dX7_place_43 : decode cX7_place 43 = .ok (.aload_n 0, 1) := by decide +kernel
theorem dX7_place_44 : decode cX7_place 44 = .ok (.getfield 13, 3) := by decide +kernel
theorem dX7_place_47 : decode cX7_place 47 = .ok (.bipush 30, 2) := by decide +kernel
theorem dX7_place_49 : decode cX7_place 49 = .ok (.iload_n 1, 1) := by decide +kernel
theorem dX7_place_50 : decode cX7_place 50 = .ok (.iadd, 1) := by decide +kernel
theorem dX7_place_51 : decode cX7_place 51 = .ok (.iload 4, 2) := by decide +kernel
theorem dX7_place_53 : decode cX7_place 53 = .ok (.iastore, 1) := by decide +kernel
theorem dX7_place_54 : decode cX7_place 54 = .ok (.aload_n 0, 1) := by decide +kernel
theorem dX7_place_55 : decode cX7_place 55 = .ok (.iload 4, 2) := by decide +kernel
theorem dX7_place_57 : decode cX7_place 57 = .ok (.aload_n 0, 1) := by decide +kernel
theorem dX7_place_58 : decode cX7_place 58 = .ok (.iload_n 2, 1) := by decide +kernel
theorem dX7_place_59 : decode cX7_place 59 = .ok (.invokevirtual 258, 3) := by decide +kernel
theorem dX7_place_62 : decode cX7_place 62 = .ok (.invokevirtual 261, 3) := by decide +kernel
theorem dX7_place_65 : decode cX7_place 65 = .ok (.iinc 4 1, 3) := by decide +kernel
theorem dX7_place_68 : decode cX7_place 68 = .ok (.goto (-36), 3) := by decide +kernel
theorem dX7_place_71 : decode cX7_place 71 = .ok (.aload_n 0, 1) := by decide +kernel
theorem dX7_place_72 : decode cX7_place 72 = .ok (.iload_n 3, 1) := by decide +kernel
theorem dX7_place_73 : decode cX7_place 73 = .ok (.invokevirtual 265, 3) := by decide +kernel
theorem dX7_place_76 : decode cX7_place 76 = .ok (.ireturn, 1) := by decide +kernel
theorem dX7_extra_0 : decode cX7_extra 0 = .ok (.iload_n 1, 1) := by decide +kernel
theorem dX7_extra_1 : decode cX7_extra 1 = .ok (.invokestatic 244, 3) := by decide +kernel
theorem dX7_extra_4 : decode cX7_extra 4 = .ok (.ifCond .eq 10, 3) := by decide +kernel
theorem dX7_extra_7 : decode cX7_extra 7 = .ok (.iload_n 2, 1) := by decide +kernel
theorem dX7_extra_8 : decode cX7_extra 8 = .ok (.invokestatic 216, 3) := by decide +kernel
theorem dX7_extra_11 : decode cX7_extra 11 = .ok (.ifCond .ne 5, 3) := by decide +kernel
theorem dX7_extra_14 : decode cX7_extra 14 = .ok (.iconst (-1), 1) := by decide +kernel
theorem dX7_extra_15 : decode cX7_extra 15 = .ok (.ireturn, 1) := by decide +kernel
theorem dX7_extra_16 : decode cX7_extra 16 = .ok (.aload_n 0, 1) := by decide +kernel
theorem dX7_extra_17 : decode cX7_extra 17 = .ok (.getfield 7, 3) := by decide +kernel
theorem dX7_extra_20 : decode cX7_extra 20 = .ok (.bipush 29, 2) := by decide +kernel
theorem dX7_extra_22 : decode cX7_extra 22 = .ok (.iaload, 1) := by decide +kernel
theorem dX7_extra_23 : decode cX7_extra 23 = .ok (.bipush 6, 2) := by decide +kernel
theorem dX7_extra_25 : decode cX7_extra 25 = .ok (.if_icmp .ne 6, 3) := by decide +kernel
theorem dX7_extra_28 : decode cX7_extra 28 = .ok (.bipush (-3), 2) := by decide +kernel
theorem dX7_extra_30 : decode cX7_extra 30 = .ok (.ireturn, 1) := by decide +kernel
theorem dX7_extra_31 : decode cX7_extra 31 = .ok (.aload_n 0, 1) := by decide +kernel
theorem dX7_extra_32 : decode cX7_extra 32 = .ok (.iconst (-1), 1) := by decide +kernel
theorem dX7_extra_33 : decode cX7_extra 33 = .ok (.invokevirtual 255, 3) := by decide +kernel
theorem dX7_extra_36 : decode cX7_extra 36 = .ok (.iconst 0, 1) := by decide +kernel
theorem dX7_extra_37 : decode cX7_extra 37 = .ok (.istore_n 3, 1) := by decide +kernel
theorem dX7_extra_38 : decode cX7_extra 38 = .ok (.iload_n 3, 1) := by decide +kernel
theorem dX7_extra_39 : decode cX7_extra 39 = .ok (.bipush 12, 2) := by decide +kernel
theorem dX7_extra_41 : decode cX7_extra 41 = .ok (.if_icmp .ge 50, 3) := by decide +kernel
theorem dX7_extra_44 : decode cX7_extra 44 = .ok (.aload_n 0, 1) := by decide +kernel
theorem dX7_extra_45 : decode cX7_extra 45 = .ok (.invokevirtual 201, 3) := by decide +kernel
theorem dX7_extra_48 : decode cX7_extra 48 = .ok (.aload_n 0, 1) := by decide +kernel
theorem dX7_extra_49 : decode cX7_extra 49 = .ok (.getfield 13, 3) := by decide +kernel
theorem dX7_extra_52 : decode cX7_extra 52 = .ok (.bipush 30, 2) := by decide +kernel
theorem dX7_extra_54 : decode cX7_extra 54 = .ok (.aload_n 0, 1) := by decide +kernel
theorem dX7_extra_55 : decode cX7_extra 55 = .ok (.getfield 13, 3) := by decide +kernel
theorem dX7_extra_58 : decode cX7_extra 58 = .ok (.bipush 29, 2) := by decide +kernel
theorem dX7_extra_60 : decode cX7_extra 60 = .ok (.iaload, 1) := by decide +kernel
theorem dX7_extra_61 : decode cX7_extra 61 = .ok (.iadd, 1) := by decide +kernel
theorem dX7_extra_62 : decode cX7_extra 62 = .ok (.iload_n 3, 1) := by decide +kernel
theorem dX7_extra_63 : decode cX7_extra 63 = .ok (.iastore, 1) := by decide +kernel
theorem dX7_extra_64 : decode cX7_extra 64 = .ok (.aload_n 0, 1) := by decide +kernel
theorem dX7_extra_65 : decode cX7_extra 65 = .ok (.getfield 13, 3) := by decide +kernel
theorem dX7_extra_68 : decode cX7_extra 68 = .ok (.bipush 29, 2) := by decide +kernel
theorem dX7_extra_70 : decode cX7_extra 70 = .ok (.dup2, 1) := by decide +kernel
theorem dX7_extra_71 : decode cX7_extra 71 = .ok (.iaload, 1) := by decide +kernel
theorem dX7_extra_72 : decode cX7_extra 72 = .ok (.iconst 1, 1) := by decide +kernel
theorem dX7_extra_73 : decode cX7_extra 73 = .ok (.iadd, 1) := by decide +kernel
theorem dX7_extra_74 : decode cX7_extra 74 = .ok (.iastore, 1) := by decide +kernel
theorem dX7_extra_75 : decode cX7_extra 75 = .ok (.aload_n 0, 1) := by decide +kernel
theorem dX7_extra_76 : decode cX7_extra 76 = .ok (.iload_n 3, 1) := by decide +kernel
theorem dX7_extra_77 : decode cX7_extra 77 = .ok (.aload_n 0, 1) := by decide +kernel
theorem dX7_extra_78 : decode cX7_extra 78 = .ok (.iload_n 1, 1) := by decide +kernel
theorem dX7_extra_79 : decode cX7_extra 79 = .ok (.invokevirtual 258, 3) := by decide +kernel
theorem dX7_extra_82 : decode cX7_extra 82 = .ok (.invokevirtual 261, 3) := by decide +kernel
theorem dX7_extra_85 : decode cX7_extra 85 = .ok (.iinc 3 1, 3) := by decide +kernel
theorem dX7_extra_88 : decode cX7_extra 88 = .ok (.goto (-50), 3) := by decide +kernel
theorem dX7_extra_91 : decode cX7_extra 91 = .ok (.aload_n 0, 1) := by decide +kernel
theorem dX7_extra_92 : decode cX7_extra 92 = .ok (.iload_n 2, 1) := by decide +kernel
theorem dX7_extra_93 : decode cX7_extra 93 = .ok (.invokevirtual 265, 3) := by decide +kernel
theorem dX7_extra_96 : decode cX7_extra 96 = .ok (.ireturn, 1) := by decide +kernel
theorem dX7_swap_0 : decode cX7_swap 0 = .ok (.iload_n 1, 1) := by decide +kernel
theorem dX7_swap_1 : decode cX7_swap 1 = .ok (.invokestatic 244, 3) := by decide +kernel
theorem dX7_swap_4 : decode cX7_swap 4 = .ok (.ifCond .eq 10, 3) := by decide +kernel
theorem dX7_swap_7 : decode cX7_swap 7 = .ok (.iload_n 2, 1) := by decide +kernel
theorem dX7_swap_8 : decode cX7_swap 8 = .ok (.invokestatic 216, 3) := by decide +kernel
theorem dX7_swap_11 : decode cX7_swap 11 = .ok (.ifCond .ne 5, 3) := by decide +kernel
theorem dX7_swap_14 : decode cX7_swap 14 = .ok (.iconst (-1), 1) := by decide +kernel
theorem dX7_swap_15 : decode cX7_swap 15 = .ok (.ireturn, 1) := by decide +kernel
theorem dX7_swap_16 : decode cX7_swap 16 = .ok (.aload_n 0, 1) := by decide +kernel
theorem dX7_swap_17 : decode cX7_swap 17 = .ok (.invokevirtual 201, 3) := by decide +kernel
theorem dX7_swap_20 : decode cX7_swap 20 = .ok (.aload_n 0, 1) := by decide +kernel
theorem dX7_swap_21 : decode cX7_swap 21 = .ok (.aload_n 0, 1) := by decide +kernel
theorem dX7_swap_22 : decode cX7_swap 22 = .ok (.iload_n 1, 1) := by decide +kernel
theorem dX7_swap_23 : decode cX7_swap 23 = .ok (.invokevirtual 236, 3) := by decide +kernel
theorem dX7_swap_26 : decode cX7_swap 26 = .ok (.invokevirtual 255, 3) := by decide +kernel
theorem dX7_swap_29 : decode cX7_swap 29 = .ok (.iconst 0, 1) := by decide +kernel
theorem dX7_swap_30 : decode cX7_swap 30 = .ok (.istore_n 3, 1) := by decide +kernel
theorem dX7_swap_31 : decode cX7_swap 31 = .ok (.iload_n 3, 1) := by decide +kernel
theorem dX7_swap_32 : decode cX7_swap 32 = .ok (.aload_n 0, 1) := by decide +kernel
theorem dX7_swap_33 : decode cX7_swap 33 = .ok (.getfield 7, 3) := by decide +kernel
theorem dX7_swap_36 : decode cX7_swap 36 = .ok (.bipush 29, 2) := by decide +kernel
theorem dX7_swap_38 : decode cX7_swap 38 = .ok (.iaload, 1) := by decide +kernel
theorem dX7_swap_39 : decode cX7_swap 39 = .ok (.if_icmp .ge 90, 3) := by decide +kernel
theorem dX7_swap_42 : decode cX7_swap 42 = .ok (.iload_n 3, 1) := by decide +kernel
theorem dX7_swap_43 : decode cX7_swap 43 = .ok (.iconst 1, 1) := by decide +kernel
theorem dX7_swap_44 : decode cX7_swap 44 = .ok (.iadd, 1) := by decide +kernel
theorem dX7_swap_45 : decode cX7_swap 45 = .ok (.istore 4, 2) := by decide +kernel
theorem dX7_swap_47 : decode cX7_swap 47 = .ok (.iload 4, 2) := by decide +kernel
theorem dX7_swap_49 : decode cX7_swap 49 = .ok (.aload_n 0, 1) := by decide +kernel
theorem dX7_swap_50 : decode cX7_swap 50 = .ok (.getfield 7, 3) := by decide +kernel
theorem dX7_swap_53 : decode cX7_swap 53 = .ok (.bipush 29, 2) := by decide +kernel
theorem dX7_swap_55 : decode cX7_swap 55 = .ok (.iaload, 1) := by decide +kernel
theorem dX7_swap_56 : decode cX7_swap 56 = .ok (.if_icmp .ge 67, 3) := by decide +kernel
theorem dX7_swap_59 : decode cX7_swap 59 = .ok (.aload_n 0, 1) := by decide +kernel
theorem dX7_swap_60 : decode cX7_swap 60 = .ok (.invokevirtual 201, 3) := by decide +kernel
theorem dX7_swap_63 : decode cX7_swap 63 = .ok (.aload_n 0, 1) := by decide +kernel
theorem dX7_swap_64 : decode cX7_swap 64 = .ok (.getfield 13, 3) := by decide +kernel
theorem dX7_swap_67 : decode cX7_swap 67 = .ok (.bipush 30, 2) := by decide +kernel
theorem dX7_swap_69 : decode cX7_swap 69 = .ok (.iload_n 3, 1) := by decide +kernel
theorem dX7_swap_70 : decode cX7_swap 70 = .ok (.iadd, 1) := by decide +kernel
theorem dX7_swap_71 : decode cX7_swap 71 = .ok (.aload_n 0, 1) := by decide +kernel
theorem dX7_swap_72 : decode cX7_swap 72 = .ok (.getfield 7, 3) := by decide +kernel
theorem dX7_swap_75 : decode cX7_swap 75 = .ok (.bipush 30, 2) := by decide +kernel
theorem dX7_swap_77 : decode cX7_swap 77 = .ok (.iload 4, 2) := by decide +kernel
theorem dX7_swap_79 : decode cX7_swap 79 = .ok (.iadd, 1) := by decide +kernel
theorem dX7_swap_80 : decode cX7_swap 80 = .ok (.iaload, 1) := by decide +kernel
theorem dX7_swap_81 : decode cX7_swap 81 = .ok (.iastore, 1) := by decide +kernel
theorem dX7_swap_82 : decode cX7_swap 82 = .ok (.aload_n 0, 1) := by decide +kernel
theorem dX7_swap_83 : decode cX7_swap 83 = .ok (.getfield 13, 3) := by decide +kernel
theorem dX7_swap_86 : decode cX7_swap 86 = .ok (.bipush 30, 2) := by decide +kernel
theorem dX7_swap_88 : decode cX7_swap 88 = .ok (.iload 4, 2) := by decide +kernel
theorem dX7_swap_90 : decode cX7_swap 90 = .ok (.iadd, 1) := by decide +kernel
theorem dX7_swap_91 : decode cX7_swap 91 = .ok (.aload_n 0, 1) := by decide +kernel
theorem dX7_swap_92 : decode cX7_swap 92 = .ok (.getfield 7, 3) := by decide +kernel
theorem dX7_swap_95 : decode cX7_swap 95 = .ok (.bipush 30, 2) := by decide +kernel
theorem dX7_swap_97 : decode cX7_swap 97 = .ok (.iload_n 3, 1) := by decide +kernel
theorem dX7_swap_98 : decode cX7_swap 98 = .ok (.iadd, 1) := by decide +kernel
theorem dX7_swap_99 : decode cX7_swap 99 = .ok (.iaload, 1) := by decide +kernel
theorem dX7_swap_100 : decode cX7_swap 100 = .ok (.iastore, 1) := by decide +kernel
theorem dX7_swap_101 : decode cX7_swap 101 = .ok (.aload_n 0, 1) := by decide +kernel
theorem dX7_swap_102 : decode cX7_swap 102 = .ok (.bipush 10, 2) := by decide +kernel
theorem dX7_swap_104 : decode cX7_swap 104 = .ok (.iload_n 3, 1) := by decide +kernel
theorem dX7_swap_105 : decode cX7_swap 105 = .ok (.imul, 1) := by decide +kernel
theorem dX7_swap_106 : decode cX7_swap 106 = .ok (.iload 4, 2) := by decide +kernel
theorem dX7_swap_108 : decode cX7_swap 108 = .ok (.iadd, 1) := by decide +kernel
theorem dX7_swap_109 : decode cX7_swap 109 = .ok (.aload_n 0, 1) := by decide +kernel
theorem dX7_swap_110 : decode cX7_swap 110 = .ok (.iload_n 1, 1) := by decide +kernel
theorem dX7_swap_111 : decode cX7_swap 111 = .ok (.invokevirtual 236, 3) := by decide +kernel
theorem dX7_swap_114 : decode cX7_swap 114 = .ok (.invokevirtual 261, 3) := by decide +kernel
theorem dX7_swap_117 : decode cX7_swap 117 = .ok (.iinc 4 1, 3) := by decide +kernel
theorem dX7_swap_120 : decode cX7_swap 120 = .ok (.goto (-73), 3) := by decide +kernel
theorem dX7_swap_123 : decode cX7_swap 123 = .ok (.iinc 3 1, 3) := by decide +kernel
theorem dX7_swap_126 : decode cX7_swap 126 = .ok (.goto (-95), 3) := by decide +kernel
theorem dX7_swap_129 : decode cX7_swap 129 = .ok (.aload_n 0, 1) := by decide +kernel
theorem dX7_swap_130 : decode cX7_swap 130 = .ok (.iload_n 2, 1) := by decide +kernel
theorem dX7_swap_131 : decode cX7_swap 131 = .ok (.invokevirtual 265, 3) := by decide +kernel
theorem dX7_swap_134 : decode cX7_swap 134 = .ok (.ireturn, 1) := by decide +kernel
theorem dX7_shun_0 : decode cX7_shun 0 = .ok (.iload_n 1, 1) := by decide +kernel
theorem dX7_shun_1 : decode cX7_shun 1 = .ok (.invokestatic 244, 3) := by decide +kernel
theorem dX7_shun_4 : decode cX7_shun 4 = .ok (.ifCond .eq 10, 3) := by decide +kernel
theorem dX7_shun_7 : decode cX7_shun 7 = .ok (.iload_n 2, 1) := by decide +kernel
theorem dX7_shun_8 : decode cX7_shun 8 = .ok (.invokestatic 216, 3) := by decide +kernel
theorem dX7_shun_11 : decode cX7_shun 11 = .ok (.ifCond .ne 5, 3) := by decide +kernel
theorem dX7_shun_14 : decode cX7_shun 14 = .ok (.iconst (-1), 1) := by decide +kernel
theorem dX7_shun_15 : decode cX7_shun 15 = .ok (.ireturn, 1) := by decide +kernel
theorem dX7_shun_16 : decode cX7_shun 16 = .ok (.aload_n 0, 1) := by decide +kernel
theorem dX7_shun_17 : decode cX7_shun 17 = .ok (.invokevirtual 201, 3) := by decide +kernel
theorem dX7_shun_20 : decode cX7_shun 20 = .ok (.aload_n 0, 1) := by decide +kernel
theorem dX7_shun_21 : decode cX7_shun 21 = .ok (.aload_n 0, 1) := by decide +kernel
theorem dX7_shun_22 : decode cX7_shun 22 = .ok (.iload_n 1, 1) := by decide +kernel
theorem dX7_shun_23 : decode cX7_shun 23 = .ok (.invokevirtual 236, 3) := by decide +kernel
theorem dX7_shun_26 : decode cX7_shun 26 = .ok (.invokevirtual 255, 3) := by decide +kernel
theorem dX7_shun_29 : decode cX7_shun 29 = .ok (.iconst 0, 1) := by decide +kernel
theorem dX7_shun_30 : decode cX7_shun 30 = .ok (.istore_n 3, 1) := by decide +kernel
theorem dX7_shun_31 : decode cX7_shun 31 = .ok (.iload_n 3, 1) := by decide +kernel
theorem dX7_shun_32 : decode cX7_shun 32 = .ok (.aload_n 0, 1) := by decide +kernel
theorem dX7_shun_33 : decode cX7_shun 33 = .ok (.getfield 7, 3) := by decide +kernel
theorem dX7_shun_36 : decode cX7_shun 36 = .ok (.bipush 29, 2) := by decide +kernel
theorem dX7_shun_38 : decode cX7_shun 38 = .ok (.iaload, 1) := by decide +kernel
theorem dX7_shun_39 : decode cX7_shun 39 = .ok (.if_icmp .ge 71, 3) := by decide +kernel
theorem dX7_shun_42 : decode cX7_shun 42 = .ok (.aload_n 0, 1) := by decide +kernel
theorem dX7_shun_43 : decode cX7_shun 43 = .ok (.invokevirtual 201, 3) := by decide +kernel
theorem dX7_shun_46 : decode cX7_shun 46 = .ok (.iload_n 3, 1) := by decide +kernel
theorem dX7_shun_47 : decode cX7_shun 47 = .ok (.istore 4, 2) := by decide +kernel
theorem dX7_shun_49 : decode cX7_shun 49 = .ok (.iload 4, 2) := by decide +kernel
theorem dX7_shun_51 : decode cX7_shun 51 = .ok (.iconst 5, 1) := by decide +kernel
theorem dX7_shun_52 : decode cX7_shun 52 = .ok (.if_icmp .ge 31, 3) := by decide +kernel
theorem dX7_shun_55 : decode cX7_shun 55 = .ok (.aload_n 0, 1) := by decide +kernel
theorem dX7_shun_56 : decode cX7_shun 56 = .ok (.getfield 13, 3) := by decide +kernel
theorem dX7_shun_59 : decode cX7_shun 59 = .ok (.bipush 30, 2) := by decide +kernel
theorem dX7_shun_61 : decode cX7_shun 61 = .ok (.iload 4, 2) := by decide +kernel
theorem dX7_shun_63 : decode cX7_shun 63 = .ok (.iadd, 1) := by decide +kernel
theorem dX7_shun_64 : decode cX7_shun 64 = .ok (.aload_n 0, 1) := by decide +kernel
theorem dX7_shun_65 : decode cX7_shun 65 = .ok (.getfield 13, 3) := by decide +kernel
theorem dX7_shun_68 : decode cX7_shun 68 = .ok (.bipush 30, 2) := by decide +kernel
theorem dX7_shun_70 : decode cX7_shun 70 = .ok (.iload 4, 2) := by decide +kernel
theorem dX7_shun_72 : decode cX7_shun 72 = .ok (.iadd, 1) := by decide +kernel
theorem dX7_shun_73 : decode cX7_shun 73 = .ok (.iconst 1, 1) := by decide +kernel
theorem dX7_shun_74 : decode cX7_shun 74 = .ok (.iadd, 1) := by decide +kernel
theorem dX7_shun_75 : decode cX7_shun 75 = .ok (.iaload, 1) := by decide +kernel
theorem dX7_shun_76 : decode cX7_shun 76 = .ok (.iastore, 1) := by decide +kernel
theorem dX7_shun_77 : decode cX7_shun 77 = .ok (.iinc 4 1, 3) := by decide +kernel
theorem dX7_shun_80 : decode cX7_shun 80 = .ok (.goto (-31), 3) := by decide +kernel
theorem dX7_shun_83 : decode cX7_shun 83 = .ok (.aload_n 0, 1) := by decide +kernel
theorem dX7_shun_84 : decode cX7_shun 84 = .ok (.getfield 13, 3) := by decide +kernel
theorem dX7_shun_87 : decode cX7_shun 87 = .ok (.bipush 29, 2) := by decide +kernel
theorem dX7_shun_89 : decode cX7_shun 89 = .ok (.dup2, 1) := by decide +kernel
theorem dX7_shun_90 : decode cX7_shun 90 = .ok (.iaload, 1) := by decide +kernel
theorem dX7_shun_91 : decode cX7_shun 91 = .ok (.iconst 1, 1) := by decide +kernel
theorem dX7_shun_92 : decode cX7_shun 92 = .ok (.isub, 1) := by decide +kernel
theorem dX7_shun_93 : decode cX7_shun 93 = .ok (.iastore, 1) := by decide +kernel
theorem dX7_shun_94 : decode cX7_shun 94 = .ok (.aload_n 0, 1) := by decide +kernel
theorem dX7_shun_95 : decode cX7_shun 95 = .ok (.iload_n 3, 1) := by decide +kernel
theorem dX7_shun_96 : decode cX7_shun 96 = .ok (.aload_n 0, 1) := by decide +kernel
theorem dX7_shun_97 : decode cX7_shun 97 = .ok (.iload_n 1, 1) := by decide +kernel
theorem dX7_shun_98 : decode cX7_shun 98 = .ok (.invokevirtual 236, 3) := by decide +kernel
theorem dX7_shun_101 : decode cX7_shun 101 = .ok (.invokevirtual 261, 3) := by decide +kernel
theorem dX7_shun_104 : decode cX7_shun 104 = .ok (.iinc 3 1, 3) := by decide +kernel
theorem dX7_shun_107 : decode cX7_shun 107 = .ok (.goto (-76), 3) := by decide +kernel
theorem dX7_shun_110 : decode cX7_shun 110 = .ok (.aload_n 0, 1) := by decide +kernel
theorem dX7_shun_111 : decode cX7_shun 111 = .ok (.iload_n 2, 1) := by decide +kernel
theorem dX7_shun_112 : decode cX7_shun 112 = .ok (.invokevirtual 265, 3) := by decide +kernel
theorem dX7_shun_115 : decode cX7_shun 115 = .ok (.ireturn, 1) := by decide +kernel
theorem dX7_need_0 : decode cX7_need 0 = .ok (.aload_n 0, 1) := by decide +kernel
theorem dX7_need_1 : decode cX7_need 1 = .ok (.iload_n 1, 1) := by decide +kernel
theorem dX7_need_2 : decode cX7_need 2 = .ok (.invokevirtual 210, 3) := by decide +kernel
theorem dX7_need_5 : decode cX7_need 5 = .ok (.ifCond .eq 10, 3) := by decide +kernel
theorem dX7_need_8 : decode cX7_need 8 = .ok (.iload_n 2, 1) := by decide +kernel
theorem dX7_need_9 : decode cX7_need 9 = .ok (.invokestatic 244, 3) := by decide +kernel
theorem dX7_need_12 : decode cX7_need 12 = .ok (.ifCond .ne 5, 3) := by decide +kernel
theorem dX7_need_15 : decode cX7_need 15 = .ok (.iconst (-1), 1) := by decide +kernel
theorem dX7_need_16 : decode cX7_need 16 = .ok (.ireturn, 1) := by decide +kernel
theorem dX7_need_17 : decode cX7_need 17 = .ok (.iconst 0, 1) := by decide +kernel
theorem dX7_need_18 : decode cX7_need 18 = .ok (.istore_n 3, 1) := by decide +kernel
theorem dX7_need_19 : decode cX7_need 19 = .ok (.iload_n 3, 1) := by decide +kernel
theorem dX7_need_20 : decode cX7_need 20 = .ok (.bipush 20, 2) := by decide +kernel
theorem dX7_need_22 : decode cX7_need 22 = .ok (.if_icmp .gt 35, 3) := by decide +kernel
theorem dX7_need_25 : decode cX7_need 25 = .ok (.aload_n 0, 1) := by decide +kernel
theorem dX7_need_26 : decode cX7_need 26 = .ok (.invokevirtual 201, 3) := by decide +kernel
theorem dX7_need_29 : decode cX7_need 29 = .ok (.aload_n 0, 1) := by decide +kernel
theorem dX7_need_30 : decode cX7_need 30 = .ok (.iload_n 1, 1) := by decide +kernel
theorem dX7_need_31 : decode cX7_need 31 = .ok (.iconst 2, 1) := by decide +kernel
theorem dX7_need_32 : decode cX7_need 32 = .ok (.iload_n 3, 1) := by decide +kernel
theorem dX7_need_33 : decode cX7_need 33 = .ok (.invokevirtual 169, 3) := by decide +kernel
theorem dX7_need_36 : decode cX7_need 36 = .ok (.aload_n 0, 1) := by decide +kernel
theorem dX7_need_37 : decode cX7_need 37 = .ok (.iload_n 2, 1) := by decide +kernel
theorem dX7_need_38 : decode cX7_need 38 = .ok (.invokevirtual 188, 3) := by decide +kernel
theorem dX7_need_41 : decode cX7_need 41 = .ok (.aload_n 0, 1) := by decide +kernel
theorem dX7_need_42 : decode cX7_need 42 = .ok (.iload_n 1, 1) := by decide +kernel
theorem dX7_need_43 : decode cX7_need 43 = .ok (.invokevirtual 157, 3) := by decide +kernel
theorem dX7_need_46 : decode cX7_need 46 = .ok (.ifCond .eq 5, 3) := by decide +kernel
theorem dX7_need_49 : decode cX7_need 49 = .ok (.iload_n 3, 1) := by decide +kernel
theorem dX7_need_50 : decode cX7_need 50 = .ok (.ireturn, 1) := by decide +kernel
theorem dX7_need_51 : decode cX7_need 51 = .ok (.iinc 3 1, 3) := by decide +kernel
theorem dX7_need_54 : decode cX7_need 54 = .ok (.goto (-35), 3) := by decide +kernel
theorem dX7_need_57 : decode cX7_need 57 = .ok (.bipush (-4), 2) := by decide +kernel
theorem dX7_need_59 : decode cX7_need 59 = .ok (.ireturn, 1) := by decide +kernel
theorem dX7_kind_0 : decode cX7_kind 0 = .ok (.aload_n 0, 1) := by decide +kernel
theorem dX7_kind_1 : decode cX7_kind 1 = .ok (.iload_n 1, 1) := by decide +kernel
theorem dX7_kind_2 : decode cX7_kind 2 = .ok (.invokevirtual 210, 3) := by decide +kernel
theorem dX7_kind_5 : decode cX7_kind 5 = .ok (.ifCond .eq 17, 3) := by decide +kernel
theorem dX7_kind_8 : decode cX7_kind 8 = .ok (.iload_n 2, 1) := by decide +kernel
theorem dX7_kind_9 : decode cX7_kind 9 = .ok (.invokestatic 244, 3) := by decide +kernel
theorem dX7_kind_12 : decode cX7_kind 12 = .ok (.ifCond .eq 10, 3) := by decide +kernel
theorem dX7_kind_15 : decode cX7_kind 15 = .ok (.iload_n 3, 1) := by decide +kernel
theorem dX7_kind_16 : decode cX7_kind 16 = .ok (.invokestatic 216, 3) := by decide +kernel
theorem dX7_kind_19 : decode cX7_kind 19 = .ok (.ifCond .ne 5, 3) := by decide +kernel
theorem dX7_kind_22 : decode cX7_kind 22 = .ok (.iconst (-1), 1) := by decide +kernel
theorem dX7_kind_23 : decode cX7_kind 23 = .ok (.ireturn, 1) := by decide +kernel
theorem dX7_kind_24 : decode cX7_kind 24 = .ok (.aload_n 0, 1) := by decide +kernel
theorem dX7_kind_25 : decode cX7_kind 25 = .ok (.iconst (-1), 1) := by decide +kernel
theorem dX7_kind_26 : decode cX7_kind 26 = .ok (.invokevirtual 255, 3) := by decide +kernel
theorem dX7_kind_29 : decode cX7_kind 29 = .ok (.iconst 0, 1) := by decide +kernel
theorem dX7_kind_30 : decode cX7_kind 30 = .ok (.istore 4, 2) := by decide +kernel
theorem dX7_kind_32 : decode cX7_kind 32 = .ok (.iload 4, 2) := by decide +kernel
theorem dX7_kind_34 : decode cX7_kind 34 = .ok (.iconst 4, 1) := by decide +kernel
theorem dX7_kind_35 : decode cX7_kind 35 = .ok (.if_icmp .ge 32, 3) := by decide +kernel
theorem dX7_kind_38 : decode cX7_kind 38 = .ok (.aload_n 0, 1) := by decide +kernel
theorem dX7_kind_39 : decode cX7_kind 39 = .ok (.invokevirtual 201, 3) := by decide +kernel
theorem dX7_kind_42 : decode cX7_kind 42 = .ok (.aload_n 0, 1) := by decide +kernel
theorem dX7_kind_43 : decode cX7_kind 43 = .ok (.iload_n 1, 1) := by decide +kernel
theorem dX7_kind_44 : decode cX7_kind 44 = .ok (.iconst 0, 1) := by decide +kernel
theorem dX7_kind_45 : decode cX7_kind 45 = .ok (.iload 4, 2) := by decide +kernel
theorem dX7_kind_47 : decode cX7_kind 47 = .ok (.invokevirtual 169, 3) := by decide +kernel
theorem dX7_kind_50 : decode cX7_kind 50 = .ok (.aload_n 0, 1) := by decide +kernel
theorem dX7_kind_51 : decode cX7_kind 51 = .ok (.iload 4, 2) := by decide +kernel
theorem dX7_kind_53 : decode cX7_kind 53 = .ok (.aload_n 0, 1) := by decide +kernel
theorem dX7_kind_54 : decode cX7_kind 54 = .ok (.iload_n 2, 1) := by decide +kernel
theorem dX7_kind_55 : decode cX7_kind 55 = .ok (.invokevirtual 236, 3) := by decide +kernel
theorem dX7_kind_58 : decode cX7_kind 58 = .ok (.invokevirtual 261, 3) := by decide +kernel
theorem dX7_kind_61 : decode cX7_kind 61 = .ok (.iinc 4 1, 3) := by decide +kernel
theorem dX7_kind_64 : decode cX7_kind 64 = .ok (.goto (-32), 3) := by decide +kernel
theorem dX7_kind_67 : decode cX7_kind 67 = .ok (.aload_n 0, 1) := by decide +kernel
theorem dX7_kind_68 : decode cX7_kind 68 = .ok (.iload_n 3, 1) := by decide +kernel
theorem dX7_kind_69 : decode cX7_kind 69 = .ok (.invokevirtual 265, 3) := by decide +kernel
theorem dX7_kind_72 : decode cX7_kind 72 = .ok (.ireturn, 1) := by decide +kernel
theorem dX7_drop_0 : decode cX7_drop 0 = .ok (.aload_n 0, 1) := by decide +kernel
theorem dX7_drop_1 : decode cX7_drop 1 = .ok (.iload_n 1, 1) := by decide +kernel
theorem dX7_drop_2 : decode cX7_drop 2 = .ok (.invokevirtual 210, 3) := by decide +kernel
theorem dX7_drop_5 : decode cX7_drop 5 = .ok (.ifCond .eq 17, 3) := by decide +kernel
theorem dX7_drop_8 : decode cX7_drop 8 = .ok (.iload_n 2, 1) := by decide +kernel
theorem dX7_drop_9 : decode cX7_drop 9 = .ok (.invokestatic 244, 3) := by decide +kernel
theorem dX7_drop_12 : decode cX7_drop 12 = .ok (.ifCond .eq 10, 3) := by decide +kernel
theorem dX7_drop_15 : decode cX7_drop 15 = .ok (.iload_n 3, 1) := by decide +kernel
theorem dX7_drop_16 : decode cX7_drop 16 = .ok (.invokestatic 216, 3) := by decide +kernel
theorem dX7_drop_19 : decode cX7_drop 19 = .ok (.ifCond .ne 5, 3) := by decide +kernel
theorem dX7_drop_22 : decode cX7_drop 22 = .ok (.iconst (-1), 1) := by decide +kernel
theorem dX7_drop_23 : decode cX7_drop 23 = .ok (.ireturn, 1) := by decide +kernel
theorem dX7_drop_24 : decode cX7_drop 24 = .ok (.aload_n 0, 1) := by decide +kernel
theorem dX7_drop_25 : decode cX7_drop 25 = .ok (.iload_n 1, 1) := by decide +kernel
theorem dX7_drop_26 : decode cX7_drop 26 = .ok (.invokevirtual 226, 3) := by decide +kernel
theorem dX7_drop_29 : decode cX7_drop 29 = .ok (.ifCond .eq 6, 3) := by decide +kernel
theorem dX7_drop_32 : decode cX7_drop 32 = .ok (.bipush (-2), 2) := by decide +kernel
theorem dX7_drop_34 : decode cX7_drop 34 = .ok (.ireturn, 1) := by decide +kernel
theorem dX7_drop_35 : decode cX7_drop 35 = .ok (.aload_n 0, 1) := by decide +kernel
theorem dX7_drop_36 : decode cX7_drop 36 = .ok (.iconst (-1), 1) := by decide +kernel
theorem dX7_drop_37 : decode cX7_drop 37 = .ok (.invokevirtual 255, 3) := by decide +kernel
theorem dX7_drop_40 : decode cX7_drop 40 = .ok (.iconst 0, 1) := by decide +kernel
theorem dX7_drop_41 : decode cX7_drop 41 = .ok (.istore 4, 2) := by decide +kernel
theorem dX7_drop_43 : decode cX7_drop 43 = .ok (.iload 4, 2) := by decide +kernel
theorem dX7_drop_45 : decode cX7_drop 45 = .ok (.bipush 12, 2) := by decide +kernel
theorem dX7_drop_47 : decode cX7_drop 47 = .ok (.if_icmp .ge 32, 3) := by decide +kernel
theorem dX7_drop_50 : decode cX7_drop 50 = .ok (.aload_n 0, 1) := by decide +kernel
theorem dX7_drop_51 : decode cX7_drop 51 = .ok (.invokevirtual 201, 3) := by decide +kernel
theorem dX7_drop_54 : decode cX7_drop 54 = .ok (.aload_n 0, 1) := by decide +kernel
theorem dX7_drop_55 : decode cX7_drop 55 = .ok (.iload_n 1, 1) := by decide +kernel
theorem dX7_drop_56 : decode cX7_drop 56 = .ok (.iconst 1, 1) := by decide +kernel
theorem dX7_drop_57 : decode cX7_drop 57 = .ok (.iload 4, 2) := by decide +kernel
theorem dX7_drop_59 : decode cX7_drop 59 = .ok (.invokevirtual 169, 3) := by decide +kernel
theorem dX7_drop_62 : decode cX7_drop 62 = .ok (.aload_n 0, 1) := by decide +kernel
theorem dX7_drop_63 : decode cX7_drop 63 = .ok (.iload 4, 2) := by decide +kernel
theorem dX7_drop_65 : decode cX7_drop 65 = .ok (.aload_n 0, 1) := by decide +kernel
theorem dX7_drop_66 : decode cX7_drop 66 = .ok (.iload_n 2, 1) := by decide +kernel
theorem dX7_drop_67 : decode cX7_drop 67 = .ok (.invokevirtual 236, 3) := by decide +kernel
theorem dX7_drop_70 : decode cX7_drop 70 = .ok (.invokevirtual 261, 3) := by decide +kernel
theorem dX7_drop_73 : decode cX7_drop 73 = .ok (.iinc 4 1, 3) := by decide +kernel
theorem dX7_drop_76 : decode cX7_drop 76 = .ok (.goto (-33), 3) := by decide +kernel
theorem dX7_drop_79 : decode cX7_drop 79 = .ok (.aload_n 0, 1) := by decide +kernel
theorem dX7_drop_80 : decode cX7_drop 80 = .ok (.iload_n 3, 1) := by decide +kernel
theorem dX7_drop_81 : decode cX7_drop 81 = .ok (.invokevirtual 265, 3) := by decide +kernel
theorem dX7_drop_84 : decode cX7_drop 84 = .ok (.ireturn, 1) := by decide +kernel
theorem dX7_common_0 : decode cX7_common 0 = .ok (.lload_n 0, 1) := by decide +kernel
theorem dX7_common_1 : decode cX7_common 1 = .ok (.lstore 4, 2) := by decide +kernel
theorem dX7_common_3 : decode cX7_common 3 = .ok (.lload_n 2, 1) := by decide +kernel
theorem dX7_common_4 : decode cX7_common 4 = .ok (.lstore 6, 2) := by decide +kernel
theorem dX7_common_6 : decode cX7_common 6 = .ok (.lload 6, 2) := by decide +kernel
theorem dX7_common_8 : decode cX7_common 8 = .ok (.lconst 0, 1) := by decide +kernel
theorem dX7_common_9 : decode cX7_common 9 = .ok (.lcmp, 1) := by decide +kernel
theorem dX7_common_10 : decode cX7_common 10 = .ok (.ifCond .eq 21, 3) := by decide +kernel
theorem dX7_common_13 : decode cX7_common 13 = .ok (.lload 4, 2) := by decide +kernel
theorem dX7_common_15 : decode cX7_common 15 = .ok (.lload 6, 2) := by decide +kernel
theorem dX7_common_17 : decode cX7_common 17 = .ok (.lrem, 1) := by decide +kernel
theorem dX7_common_18 : decode cX7_common 18 = .ok (.lstore 8, 2) := by decide +kernel
theorem dX7_common_20 : decode cX7_common 20 = .ok (.lload 6, 2) := by decide +kernel
theorem dX7_common_22 : decode cX7_common 22 = .ok (.lstore 4, 2) := by decide +kernel
theorem dX7_common_24 : decode cX7_common 24 = .ok (.lload 8, 2) := by decide +kernel
theorem dX7_common_26 : decode cX7_common 26 = .ok (.lstore 6, 2) := by decide +kernel
theorem dX7_common_28 : decode cX7_common 28 = .ok (.goto (-22), 3) := by decide +kernel
theorem dX7_common_31 : decode cX7_common 31 = .ok (.lload 4, 2) := by decide +kernel
theorem dX7_common_33 : decode cX7_common 33 = .ok (.lreturn, 1) := by decide +kernel
theorem dX7_told_0 : decode cX7_told 0 = .ok (.lload_n 2, 1) := by decide +kernel
theorem dX7_told_1 : decode cX7_told 1 = .ok (.lload_n 0, 1) := by decide +kernel
theorem dX7_told_2 : decode cX7_told 2 = .ok (.invokestatic 268, 3) := by decide +kernel
theorem dX7_told_5 : decode cX7_told 5 = .ok (.lstore 5, 2) := by decide +kernel
theorem dX7_told_7 : decode cX7_told 7 = .ok (.iload 4, 2) := by decide +kernel
theorem dX7_told_9 : decode cX7_told 9 = .ok (.ifCond .ne 10, 3) := by decide +kernel
theorem dX7_told_12 : decode cX7_told 12 = .ok (.lload_n 0, 1) := by decide +kernel
theorem dX7_told_13 : decode cX7_told 13 = .ok (.lload 5, 2) := by decide +kernel
theorem dX7_told_15 : decode cX7_told 15 = .ok (.ldiv, 1) := by decide +kernel
theorem dX7_told_16 : decode cX7_told 16 = .ok (.goto 7, 3) := by decide +kernel
theorem dX7_told_19 : decode cX7_told 19 = .ok (.lload_n 2, 1) := by decide +kernel
theorem dX7_told_20 : decode cX7_told 20 = .ok (.lload 5, 2) := by decide +kernel
theorem dX7_told_22 : decode cX7_told 22 = .ok (.ldiv, 1) := by decide +kernel
theorem dX7_told_23 : decode cX7_told 23 = .ok (.lreturn, 1) := by decide +kernel
theorem dX7_findOdds_0 : decode cX7_findOdds 0 = .ok (.aload_n 0, 1) := by decide +kernel
theorem dX7_findOdds_1 : decode cX7_findOdds 1 = .ok (.lconst 0, 1) := by decide +kernel
theorem dX7_findOdds_2 : decode cX7_findOdds 2 = .ok (.putfield 272, 3) := by decide +kernel
theorem dX7_findOdds_5 : decode cX7_findOdds 5 = .ok (.aload_n 0, 1) := by decide +kernel
theorem dX7_findOdds_6 : decode cX7_findOdds 6 = .ok (.lconst 0, 1) := by decide +kernel
theorem dX7_findOdds_7 : decode cX7_findOdds 7 = .ok (.putfield 276, 3) := by decide +kernel
theorem dX7_findOdds_10 : decode cX7_findOdds 10 = .ok (.aload_n 0, 1) := by decide +kernel
theorem dX7_findOdds_11 : decode cX7_findOdds 11 = .ok (.lconst 1, 1) := by decide +kernel
theorem dX7_findOdds_12 : decode cX7_findOdds 12 = .ok (.putfield 279, 3) := by decide +kernel
theorem dX7_findOdds_15 : decode cX7_findOdds 15 = .ok (.iconst 0, 1) := by decide +kernel
theorem dX7_findOdds_16 : decode cX7_findOdds 16 = .ok (.istore 4, 2) := by decide +kernel
theorem dX7_findOdds_18 : decode cX7_findOdds 18 = .ok (.iload 4, 2) := by decide +kernel
theorem dX7_findOdds_20 : decode cX7_findOdds 20 = .ok (.iload_n 3, 1) := by decide +kernel
theorem dX7_findOdds_21 : decode cX7_findOdds 21 = .ok (.if_icmp .ge 21, 3) := by decide +kernel
theorem dX7_findOdds_24 : decode cX7_findOdds 24 = .ok (.aload_n 0, 1) := by decide +kernel
theorem dX7_findOdds_25 : decode cX7_findOdds 25 = .ok (.dup, 1) := by decide +kernel
theorem dX7_findOdds_26 : decode cX7_findOdds 26 = .ok (.getfield 279, 3) := by decide +kernel
theorem dX7_findOdds_29 : decode cX7_findOdds 29 = .ok (.ldc2_w 282, 3) := by decide +kernel
theorem dX7_findOdds_32 : decode cX7_findOdds 32 = .ok (.lmul, 1) := by decide +kernel
theorem dX7_findOdds_33 : decode cX7_findOdds 33 = .ok (.putfield 279, 3) := by decide +kernel
theorem dX7_findOdds_36 : decode cX7_findOdds 36 = .ok (.iinc 4 1, 3) := by decide +kernel
theorem dX7_findOdds_39 : decode cX7_findOdds 39 = .ok (.goto (-21), 3) := by decide +kernel
theorem dX7_findOdds_42 : decode cX7_findOdds 42 = .ok (.iconst 0, 1) := by decide +kernel
theorem dX7_findOdds_43 : decode cX7_findOdds 43 = .ok (.istore 4, 2) := by decide +kernel
theorem dX7_findOdds_45 : decode cX7_findOdds 45 = .ok (.iload 4, 2) := by decide +kernel
theorem dX7_findOdds_47 : decode cX7_findOdds 47 = .ok (.iconst 1, 1) := by decide +kernel
theorem dX7_findOdds_48 : decode cX7_findOdds 48 = .ok (.iload_n 3, 1) := by decide +kernel
theorem dX7_findOdds_49 : decode cX7_findOdds 49 = .ok (.ishl, 1) := by decide +kernel
theorem dX7_findOdds_50 : decode cX7_findOdds 50 = .ok (.if_icmp .ge 138, 3) := by decide +kernel
theorem dX7_findOdds_53 : decode cX7_findOdds 53 = .ok (.lconst 1, 1) := by decide +kernel
theorem dX7_findOdds_54 : decode cX7_findOdds 54 = .ok (.lstore 5, 2) := by decide +kernel
theorem dX7_findOdds_56 : decode cX7_findOdds 56 = .ok (.aload_n 0, 1) := by decide +kernel
theorem dX7_findOdds_57 : decode cX7_findOdds 57 = .ok (.invokevirtual 201, 3) := by decide +kernel
theorem dX7_findOdds_60 : decode cX7_findOdds 60 = .ok (.iconst 0, 1) := by decide +kernel
theorem dX7_findOdds_61 : decode cX7_findOdds 61 = .ok (.istore 7, 2) := by decide +kernel
theorem dX7_findOdds_63 : decode cX7_findOdds 63 = .ok (.iload 7, 2) := by decide +kernel
theorem dX7_findOdds_65 : decode cX7_findOdds 65 = .ok (.iload_n 3, 1) := by decide +kernel
theorem dX7_findOdds_66 : decode cX7_findOdds 66 = .ok (.if_icmp .ge 70, 3) := by decide +kernel
theorem dX7_findOdds_69 : decode cX7_findOdds 69 = .ok (.iload 4, 2) := by decide +kernel
theorem dX7_findOdds_71 : decode cX7_findOdds 71 = .ok (.iload 7, 2) := by decide +kernel
theorem dX7_findOdds_73 : decode cX7_findOdds 73 = .ok (.ishr, 1) := by decide +kernel
theorem dX7_findOdds_74 : decode cX7_findOdds 74 = .ok (.iconst 1, 1) := by decide +kernel
theorem dX7_findOdds_75 : decode cX7_findOdds 75 = .ok (.iand, 1) := by decide +kernel
theorem dX7_findOdds_76 : decode cX7_findOdds 76 = .ok (.iconst 1, 1) := by decide +kernel
theorem dX7_findOdds_77 : decode cX7_findOdds 77 = .ok (.if_icmp .ne 7, 3) := by decide +kernel
theorem dX7_findOdds_80 : decode cX7_findOdds 80 = .ok (.iconst 1, 1) := by decide +kernel
theorem dX7_findOdds_81 : decode cX7_findOdds 81 = .ok (.goto 4, 3) := by decide +kernel
theorem dX7_findOdds_84 : decode cX7_findOdds 84 = .ok (.iconst 0, 1) := by decide +kernel
theorem dX7_findOdds_85 : decode cX7_findOdds 85 = .ok (.istore 8, 2) := by decide +kernel
theorem dX7_findOdds_87 : decode cX7_findOdds 87 = .ok (.lload 5, 2) := by decide +kernel
theorem dX7_findOdds_89 : decode cX7_findOdds 89 = .ok (.iload 8, 2) := by decide +kernel
theorem dX7_findOdds_91 : decode cX7_findOdds 91 = .ok (.ifCond .eq 8, 3) := by decide +kernel
theorem dX7_findOdds_94 : decode cX7_findOdds 94 = .ok (.iload_n 1, 1) := by decide +kernel
theorem dX7_findOdds_95 : decode cX7_findOdds 95 = .ok (.i2l, 1) := by decide +kernel
theorem dX7_findOdds_96 : decode cX7_findOdds 96 = .ok (.goto 8, 3) := by decide +kernel
theorem dX7_findOdds_99 : decode cX7_findOdds 99 = .ok (.bipush 10, 2) := by decide +kernel
theorem dX7_findOdds_101 : decode cX7_findOdds 101 = .ok (.iload_n 1, 1) := by decide +kernel
theorem dX7_findOdds_102 : decode cX7_findOdds 102 = .ok (.isub, 1) := by decide +kernel
theorem dX7_findOdds_103 : decode cX7_findOdds 103 = .ok (.i2l, 1) := by decide +kernel
theorem dX7_findOdds_104 : decode cX7_findOdds 104 = .ok (.lmul, 1) := by decide +kernel
theorem dX7_findOdds_105 : decode cX7_findOdds 105 = .ok (.lstore 5, 2) := by decide +kernel
theorem dX7_findOdds_107 : decode cX7_findOdds 107 = .ok (.aload_n 0, 1) := by decide +kernel
theorem dX7_findOdds_108 : decode cX7_findOdds 108 = .ok (.iload 8, 2) := by decide +kernel
theorem dX7_findOdds_110 : decode cX7_findOdds 110 = .ok (.ifCond .eq 13, 3) := by decide +kernel
theorem dX7_findOdds_113 : decode cX7_findOdds 113 = .ok (.aload_n 0, 1) := by decide +kernel
theorem dX7_findOdds_114 : decode cX7_findOdds 114 = .ok (.getfield 13, 3) := by decide +kernel
theorem dX7_findOdds_117 : decode cX7_findOdds 117 = .ok (.bipush 28, 2) := by decide +kernel
theorem dX7_findOdds_119 : decode cX7_findOdds 119 = .ok (.iaload, 1) := by decide +kernel
theorem dX7_findOdds_120 : decode cX7_findOdds 120 = .ok (.goto 7, 3) := by decide +kernel
theorem dX7_findOdds_123 : decode cX7_findOdds 123 = .ok (.aload_n 0, 1) := by decide +kernel
theorem dX7_findOdds_124 : decode cX7_findOdds 124 = .ok (.invokevirtual 182, 3) := by decide +kernel
theorem dX7_findOdds_127 : decode cX7_findOdds 127 = .ok (.invokevirtual 185, 3) := by decide +kernel
theorem dX7_findOdds_130 : decode cX7_findOdds 130 = .ok (.iinc 7 1, 3) := by decide +kernel
theorem dX7_findOdds_133 : decode cX7_findOdds 133 = .ok (.goto (-70), 3) := by decide +kernel
theorem dX7_findOdds_136 : decode cX7_findOdds 136 = .ok (.aload_n 0, 1) := by decide +kernel
theorem dX7_findOdds_137 : decode cX7_findOdds 137 = .ok (.dup, 1) := by decide +kernel
theorem dX7_findOdds_138 : decode cX7_findOdds 138 = .ok (.getfield 272, 3) := by decide +kernel
theorem dX7_findOdds_141 : decode cX7_findOdds 141 = .ok (.iload_n 2, 1) := by decide +kernel
theorem dX7_findOdds_142 : decode cX7_findOdds 142 = .ok (.bipush (-4), 2) := by decide +kernel
theorem dX7_findOdds_144 : decode cX7_findOdds 144 = .ok (.if_icmp .eq 16, 3) := by decide +kernel
theorem dX7_findOdds_147 : decode cX7_findOdds 147 = .ok (.aload_n 0, 1) := by decide +kernel
theorem dX7_findOdds_148 : decode cX7_findOdds 148 = .ok (.iload_n 2, 1) := by decide +kernel
theorem dX7_findOdds_149 : decode cX7_findOdds 149 = .ok (.invokevirtual 157, 3) := by decide +kernel
theorem dX7_findOdds_152 : decode cX7_findOdds 152 = .ok (.ifCond .eq 8, 3) := by decide +kernel
theorem dX7_findOdds_155 : decode cX7_findOdds 155 = .ok (.lload 5, 2) := by decide +kernel
theorem dX7_findOdds_157 : decode cX7_findOdds 157 = .ok (.goto 4, 3) := by decide +kernel
theorem dX7_findOdds_160 : decode cX7_findOdds 160 = .ok (.lconst 0, 1) := by decide +kernel
theorem dX7_findOdds_161 : decode cX7_findOdds 161 = .ok (.ladd, 1) := by decide +kernel
theorem dX7_findOdds_162 : decode cX7_findOdds 162 = .ok (.putfield 272, 3) := by decide +kernel
theorem dX7_findOdds_165 : decode cX7_findOdds 165 = .ok (.aload_n 0, 1) := by decide +kernel
theorem dX7_findOdds_166 : decode cX7_findOdds 166 = .ok (.dup, 1) := by decide +kernel
theorem dX7_findOdds_167 : decode cX7_findOdds 167 = .ok (.getfield 276, 3) := by decide +kernel
theorem dX7_findOdds_170 : decode cX7_findOdds 170 = .ok (.lload 5, 2) := by decide +kernel
theorem dX7_findOdds_172 : decode cX7_findOdds 172 = .ok (.aload_n 0, 1) := by decide +kernel
theorem dX7_findOdds_173 : decode cX7_findOdds 173 = .ok (.invokevirtual 191, 3) := by decide +kernel
theorem dX7_findOdds_176 : decode cX7_findOdds 176 = .ok (.i2l, 1) := by decide +kernel
theorem dX7_findOdds_177 : decode cX7_findOdds 177 = .ok (.lmul, 1) := by decide +kernel
theorem dX7_findOdds_178 : decode cX7_findOdds 178 = .ok (.ladd, 1) := by decide +kernel
theorem dX7_findOdds_179 : decode cX7_findOdds 179 = .ok (.putfield 276, 3) := by decide +kernel
theorem dX7_findOdds_182 : decode cX7_findOdds 182 = .ok (.iinc 4 1, 3) := by decide +kernel
theorem dX7_findOdds_185 : decode cX7_findOdds 185 = .ok (.goto (-140), 3) := by decide +kernel
theorem dX7_findOdds_188 : decode cX7_findOdds 188 = .ok (.return_, 1) := by decide +kernel
theorem dX7_luck_0 : decode cX7_luck 0 = .ok (.iload_n 1, 1) := by decide +kernel
theorem dX7_luck_1 : decode cX7_luck 1 = .ok (.i2l, 1) := by decide +kernel
theorem dX7_luck_2 : decode cX7_luck 2 = .ok (.lconst 0, 1) := by decide +kernel
theorem dX7_luck_3 : decode cX7_luck 3 = .ok (.ldc2_w 282, 3) := by decide +kernel
theorem dX7_luck_6 : decode cX7_luck 6 = .ok (.invokestatic 72, 3) := by decide +kernel
theorem dX7_luck_9 : decode cX7_luck 9 = .ok (.ifCond .eq 31, 3) := by decide +kernel
theorem dX7_luck_12 : decode cX7_luck 12 = .ok (.aload_n 0, 1) := by decide +kernel
theorem dX7_luck_13 : decode cX7_luck 13 = .ok (.iload_n 2, 1) := by decide +kernel
theorem dX7_luck_14 : decode cX7_luck 14 = .ok (.invokevirtual 210, 3) := by decide +kernel
theorem dX7_luck_17 : decode cX7_luck 17 = .ok (.ifCond .eq 23, 3) := by decide +kernel
theorem dX7_luck_20 : decode cX7_luck 20 = .ok (.iload_n 3, 1) := by decide +kernel
theorem dX7_luck_21 : decode cX7_luck 21 = .ok (.i2l, 1) := by decide +kernel
theorem dX7_luck_22 : decode cX7_luck 22 = .ok (.lconst 0, 1) := by decide +kernel
theorem dX7_luck_23 : decode cX7_luck 23 = .ok (.ldc2_w 284, 3) := by decide +kernel
theorem dX7_luck_26 : decode cX7_luck 26 = .ok (.invokestatic 72, 3) := by decide +kernel
theorem dX7_luck_29 : decode cX7_luck 29 = .ok (.ifCond .eq 11, 3) := by decide +kernel
theorem dX7_luck_32 : decode cX7_luck 32 = .ok (.iload 4, 2) := by decide +kernel
theorem dX7_luck_34 : decode cX7_luck 34 = .ok (.invokestatic 216, 3) := by decide +kernel
theorem dX7_luck_37 : decode cX7_luck 37 = .ok (.ifCond .ne 7, 3) := by decide +kernel
theorem dX7_luck_40 : decode cX7_luck 40 = .ok (.ldc2_w 286, 3) := by decide +kernel
theorem dX7_luck_43 : decode cX7_luck 43 = .ok (.lreturn, 1) := by decide +kernel
theorem dX7_luck_44 : decode cX7_luck 44 = .ok (.aload_n 0, 1) := by decide +kernel
theorem dX7_luck_45 : decode cX7_luck 45 = .ok (.iload_n 1, 1) := by decide +kernel
theorem dX7_luck_46 : decode cX7_luck 46 = .ok (.iload_n 2, 1) := by decide +kernel
theorem dX7_luck_47 : decode cX7_luck 47 = .ok (.iload_n 3, 1) := by decide +kernel
theorem dX7_luck_48 : decode cX7_luck 48 = .ok (.invokevirtual 288, 3) := by decide +kernel
theorem dX7_luck_51 : decode cX7_luck 51 = .ok (.aload_n 0, 1) := by decide +kernel
theorem dX7_luck_52 : decode cX7_luck 52 = .ok (.getfield 272, 3) := by decide +kernel
theorem dX7_luck_55 : decode cX7_luck 55 = .ok (.aload_n 0, 1) := by decide +kernel
theorem dX7_luck_56 : decode cX7_luck 56 = .ok (.getfield 279, 3) := by decide +kernel
theorem dX7_luck_59 : decode cX7_luck 59 = .ok (.iload 4, 2) := by decide +kernel
theorem dX7_luck_61 : decode cX7_luck 61 = .ok (.invokestatic 291, 3) := by decide +kernel
theorem dX7_luck_64 : decode cX7_luck 64 = .ok (.lreturn, 1) := by decide +kernel
theorem dX7_mean_0 : decode cX7_mean 0 = .ok (.iload_n 1, 1) := by decide +kernel
theorem dX7_mean_1 : decode cX7_mean 1 = .ok (.i2l, 1) := by decide +kernel
theorem dX7_mean_2 : decode cX7_mean 2 = .ok (.lconst 0, 1) := by decide +kernel
theorem dX7_mean_3 : decode cX7_mean 3 = .ok (.ldc2_w 282, 3) := by decide +kernel
theorem dX7_mean_6 : decode cX7_mean 6 = .ok (.invokestatic 72, 3) := by decide +kernel
theorem dX7_mean_9 : decode cX7_mean 9 = .ok (.ifCond .eq 22, 3) := by decide +kernel
theorem dX7_mean_12 : decode cX7_mean 12 = .ok (.iload_n 2, 1) := by decide +kernel
theorem dX7_mean_13 : decode cX7_mean 13 = .ok (.i2l, 1) := by decide +kernel
theorem dX7_mean_14 : decode cX7_mean 14 = .ok (.lconst 0, 1) := by decide +kernel
theorem dX7_mean_15 : decode cX7_mean 15 = .ok (.ldc2_w 284, 3) := by decide +kernel
theorem dX7_mean_18 : decode cX7_mean 18 = .ok (.invokestatic 72, 3) := by decide +kernel
theorem dX7_mean_21 : decode cX7_mean 21 = .ok (.ifCond .eq 10, 3) := by decide +kernel
theorem dX7_mean_24 : decode cX7_mean 24 = .ok (.iload_n 3, 1) := by decide +kernel
theorem dX7_mean_25 : decode cX7_mean 25 = .ok (.invokestatic 216, 3) := by decide +kernel
theorem dX7_mean_28 : decode cX7_mean 28 = .ok (.ifCond .ne 7, 3) := by decide +kernel
theorem dX7_mean_31 : decode cX7_mean 31 = .ok (.ldc2_w 286, 3) := by decide +kernel
theorem dX7_mean_34 : decode cX7_mean 34 = .ok (.lreturn, 1) := by decide +kernel
theorem dX7_mean_35 : decode cX7_mean 35 = .ok (.aload_n 0, 1) := by decide +kernel
theorem dX7_mean_36 : decode cX7_mean 36 = .ok (.iload_n 1, 1) := by decide +kernel
theorem dX7_mean_37 : decode cX7_mean 37 = .ok (.bipush (-4), 2) := by decide +kernel
theorem dX7_mean_39 : decode cX7_mean 39 = .ok (.iload_n 2, 1) := by decide +kernel
theorem dX7_mean_40 : decode cX7_mean 40 = .ok (.invokevirtual 288, 3) := by decide +kernel
theorem dX7_mean_43 : decode cX7_mean 43 = .ok (.aload_n 0, 1) := by decide +kernel
theorem dX7_mean_44 : decode cX7_mean 44 = .ok (.getfield 276, 3) := by decide +kernel
theorem dX7_mean_47 : decode cX7_mean 47 = .ok (.aload_n 0, 1) := by decide +kernel
theorem dX7_mean_48 : decode cX7_mean 48 = .ok (.getfield 279, 3) := by decide +kernel
theorem dX7_mean_51 : decode cX7_mean 51 = .ok (.iload_n 3, 1) := by decide +kernel
theorem dX7_mean_52 : decode cX7_mean 52 = .ok (.invokestatic 291, 3) := by decide +kernel
theorem dX7_mean_55 : decode cX7_mean 55 = .ok (.lreturn, 1) := by decide +kernel
theorem dX7_see_0 : decode cX7_see 0 = .ok (.iload_n 1, 1) := by decide +kernel
theorem dX7_see_1 : decode cX7_see 1 = .ok (.i2l, 1) := by decide +kernel
theorem dX7_see_2 : decode cX7_see 2 = .ok (.lconst 0, 1) := by decide +kernel
theorem dX7_see_3 : decode cX7_see 3 = .ok (.ldc2_w 224, 3) := by decide +kernel
theorem dX7_see_6 : decode cX7_see 6 = .ok (.invokestatic 72, 3) := by decide +kernel
theorem dX7_see_9 : decode cX7_see 9 = .ok (.ifCond .eq 18, 3) := by decide +kernel
theorem dX7_see_12 : decode cX7_see 12 = .ok (.aload_n 0, 1) := by decide +kernel
theorem dX7_see_13 : decode cX7_see 13 = .ok (.iload_n 2, 1) := by decide +kernel
theorem dX7_see_14 : decode cX7_see 14 = .ok (.invokevirtual 210, 3) := by decide +kernel
theorem dX7_see_17 : decode cX7_see 17 = .ok (.ifCond .eq 10, 3) := by decide +kernel
theorem dX7_see_20 : decode cX7_see 20 = .ok (.iload_n 3, 1) := by decide +kernel
theorem dX7_see_21 : decode cX7_see 21 = .ok (.invokestatic 213, 3) := by decide +kernel
theorem dX7_see_24 : decode cX7_see 24 = .ok (.ifCond .ne 5, 3) := by decide +kernel
theorem dX7_see_27 : decode cX7_see 27 = .ok (.iconst (-1), 1) := by decide +kernel
theorem dX7_see_28 : decode cX7_see 28 = .ok (.ireturn, 1) := by decide +kernel
theorem dX7_see_29 : decode cX7_see 29 = .ok (.aload_n 0, 1) := by decide +kernel
theorem dX7_see_30 : decode cX7_see 30 = .ok (.getfield 7, 3) := by decide +kernel
theorem dX7_see_33 : decode cX7_see 33 = .ok (.bipush 38, 2) := by decide +kernel
theorem dX7_see_35 : decode cX7_see 35 = .ok (.iaload, 1) := by decide +kernel
theorem dX7_see_36 : decode cX7_see 36 = .ok (.bipush 6, 2) := by decide +kernel
theorem dX7_see_38 : decode cX7_see 38 = .ok (.if_icmp .ne 6, 3) := by decide +kernel
theorem dX7_see_41 : decode cX7_see 41 = .ok (.bipush (-3), 2) := by decide +kernel
theorem dX7_see_43 : decode cX7_see 43 = .ok (.ireturn, 1) := by decide +kernel
theorem dX7_see_44 : decode cX7_see 44 = .ok (.bipush 39, 2) := by decide +kernel
theorem dX7_see_46 : decode cX7_see 46 = .ok (.iconst 3, 1) := by decide +kernel
theorem dX7_see_47 : decode cX7_see 47 = .ok (.aload_n 0, 1) := by decide +kernel
theorem dX7_see_48 : decode cX7_see 48 = .ok (.getfield 7, 3) := by decide +kernel
theorem dX7_see_51 : decode cX7_see 51 = .ok (.bipush 38, 2) := by decide +kernel
theorem dX7_see_53 : decode cX7_see 53 = .ok (.iaload, 1) := by decide +kernel
theorem dX7_see_54 : decode cX7_see 54 = .ok (.imul, 1) := by decide +kernel
theorem dX7_see_55 : decode cX7_see 55 = .ok (.iadd, 1) := by decide +kernel
theorem dX7_see_56 : decode cX7_see 56 = .ok (.istore 4, 2) := by decide +kernel
theorem dX7_see_58 : decode cX7_see 58 = .ok (.aload_n 0, 1) := by decide +kernel
theorem dX7_see_59 : decode cX7_see 59 = .ok (.getfield 7, 3) := by decide +kernel
theorem dX7_see_62 : decode cX7_see 62 = .ok (.iload 4, 2) := by decide +kernel
theorem dX7_see_64 : decode cX7_see 64 = .ok (.iload_n 1, 1) := by decide +kernel
theorem dX7_see_65 : decode cX7_see 65 = .ok (.iastore, 1) := by decide +kernel
theorem dX7_see_66 : decode cX7_see 66 = .ok (.aload_n 0, 1) := by decide +kernel
theorem dX7_see_67 : decode cX7_see 67 = .ok (.getfield 7, 3) := by decide +kernel
theorem dX7_see_70 : decode cX7_see 70 = .ok (.iload 4, 2) := by decide +kernel
theorem dX7_see_72 : decode cX7_see 72 = .ok (.iconst 1, 1) := by decide +kernel
theorem dX7_see_73 : decode cX7_see 73 = .ok (.iadd, 1) := by decide +kernel
theorem dX7_see_74 : decode cX7_see 74 = .ok (.iload_n 2, 1) := by decide +kernel
theorem dX7_see_75 : decode cX7_see 75 = .ok (.iastore, 1) := by decide +kernel
theorem dX7_see_76 : decode cX7_see 76 = .ok (.aload_n 0, 1) := by decide +kernel
theorem dX7_see_77 : decode cX7_see 77 = .ok (.getfield 7, 3) := by decide +kernel
theorem dX7_see_80 : decode cX7_see 80 = .ok (.iload 4, 2) := by decide +kernel
theorem dX7_see_82 : decode cX7_see 82 = .ok (.iconst 2, 1) := by decide +kernel
theorem dX7_see_83 : decode cX7_see 83 = .ok (.iadd, 1) := by decide +kernel
theorem dX7_see_84 : decode cX7_see 84 = .ok (.iload_n 3, 1) := by decide +kernel
theorem dX7_see_85 : decode cX7_see 85 = .ok (.iastore, 1) := by decide +kernel
theorem dX7_see_86 : decode cX7_see 86 = .ok (.aload_n 0, 1) := by decide +kernel
theorem dX7_see_87 : decode cX7_see 87 = .ok (.getfield 7, 3) := by decide +kernel
theorem dX7_see_90 : decode cX7_see 90 = .ok (.bipush 38, 2) := by decide +kernel
theorem dX7_see_92 : decode cX7_see 92 = .ok (.dup2, 1) := by decide +kernel
theorem dX7_see_93 : decode cX7_see 93 = .ok (.iaload, 1) := by decide +kernel
theorem dX7_see_94 : decode cX7_see 94 = .ok (.iconst 1, 1) := by decide +kernel
theorem dX7_see_95 : decode cX7_see 95 = .ok (.iadd, 1) := by decide +kernel
theorem dX7_see_96 : decode cX7_see 96 = .ok (.iastore, 1) := by decide +kernel
theorem dX7_see_97 : decode cX7_see 97 = .ok (.aload_n 0, 1) := by decide +kernel
theorem dX7_see_98 : decode cX7_see 98 = .ok (.getfield 7, 3) := by decide +kernel
theorem dX7_see_101 : decode cX7_see 101 = .ok (.bipush 38, 2) := by decide +kernel
theorem dX7_see_103 : decode cX7_see 103 = .ok (.iaload, 1) := by decide +kernel
theorem dX7_see_104 : decode cX7_see 104 = .ok (.ireturn, 1) := by decide +kernel
theorem dX7_forget_0 : decode cX7_forget 0 = .ok (.iload_n 1, 1) := by decide +kernel
theorem dX7_forget_1 : decode cX7_forget 1 = .ok (.i2l, 1) := by decide +kernel
theorem dX7_forget_2 : decode cX7_forget 2 = .ok (.lconst 0, 1) := by decide +kernel
theorem dX7_forget_3 : decode cX7_forget 3 = .ok (.aload_n 0, 1) := by decide +kernel
theorem dX7_forget_4 : decode cX7_forget 4 = .ok (.getfield 7, 3) := by decide +kernel
theorem dX7_forget_7 : decode cX7_forget 7 = .ok (.bipush 38, 2) := by decide +kernel
theorem dX7_forget_9 : decode cX7_forget 9 = .ok (.iaload, 1) := by decide +kernel
theorem dX7_forget_10 : decode cX7_forget 10 = .ok (.i2l, 1) := by decide +kernel
theorem dX7_forget_11 : decode cX7_forget 11 = .ok (.invokestatic 72, 3) := by decide +kernel
theorem dX7_forget_14 : decode cX7_forget 14 = .ok (.ifCond .eq 13, 3) := by decide +kernel
theorem dX7_forget_17 : decode cX7_forget 17 = .ok (.aload_n 0, 1) := by decide +kernel
theorem dX7_forget_18 : decode cX7_forget 18 = .ok (.bipush 38, 2) := by decide +kernel
theorem dX7_forget_20 : decode cX7_forget 20 = .ok (.iload_n 1, 1) := by decide +kernel
theorem dX7_forget_21 : decode cX7_forget 21 = .ok (.invokevirtual 229, 3) := by decide +kernel
theorem dX7_forget_24 : decode cX7_forget 24 = .ok (.goto 4, 3) := by decide +kernel
theorem dX7_forget_27 : decode cX7_forget 27 = .ok (.iconst (-1), 1) := by decide +kernel
theorem dX7_forget_28 : decode cX7_forget 28 = .ok (.ireturn, 1) := by decide +kernel
theorem dX7_isSoWith_0 : decode cX7_isSoWith 0 = .ok (.aload_n 0, 1) := by decide +kernel
theorem dX7_isSoWith_1 : decode cX7_isSoWith 1 = .ok (.invokevirtual 201, 3) := by decide +kernel
theorem dX7_isSoWith_4 : decode cX7_isSoWith 4 = .ok (.aload_n 0, 1) := by decide +kernel
theorem dX7_isSoWith_5 : decode cX7_isSoWith 5 = .ok (.getfield 13, 3) := by decide +kernel
theorem dX7_isSoWith_8 : decode cX7_isSoWith 8 = .ok (.iload_n 1, 1) := by decide +kernel
theorem dX7_isSoWith_9 : decode cX7_isSoWith 9 = .ok (.iload_n 2, 1) := by decide +kernel
theorem dX7_isSoWith_10 : decode cX7_isSoWith 10 = .ok (.iastore, 1) := by decide +kernel
theorem dX7_isSoWith_11 : decode cX7_isSoWith 11 = .ok (.iconst 0, 1) := by decide +kernel
theorem dX7_isSoWith_12 : decode cX7_isSoWith 12 = .ok (.istore_n 3, 1) := by decide +kernel
theorem dX7_isSoWith_13 : decode cX7_isSoWith 13 = .ok (.iload_n 3, 1) := by decide +kernel
theorem dX7_isSoWith_14 : decode cX7_isSoWith 14 = .ok (.bipush 20, 2) := by decide +kernel
theorem dX7_isSoWith_16 : decode cX7_isSoWith 16 = .ok (.if_icmp .gt 49, 3) := by decide +kernel
theorem dX7_isSoWith_19 : decode cX7_isSoWith 19 = .ok (.iconst 0, 1) := by decide +kernel
theorem dX7_isSoWith_20 : decode cX7_isSoWith 20 = .ok (.istore 4, 2) := by decide +kernel
theorem dX7_isSoWith_22 : decode cX7_isSoWith 22 = .ok (.iload 4, 2) := by decide +kernel
theorem dX7_isSoWith_24 : decode cX7_isSoWith 24 = .ok (.aload_n 0, 1) := by decide +kernel
theorem dX7_isSoWith_25 : decode cX7_isSoWith 25 = .ok (.getfield 67, 3) := by decide +kernel
theorem dX7_isSoWith_28 : decode cX7_isSoWith 28 = .ok (.if_icmp .ge 26, 3) := by decide +kernel
theorem dX7_isSoWith_31 : decode cX7_isSoWith 31 = .ok (.aload_n 0, 1) := by decide +kernel
theorem dX7_isSoWith_32 : decode cX7_isSoWith 32 = .ok (.getfield 26, 3) := by decide +kernel
theorem dX7_isSoWith_35 : decode cX7_isSoWith 35 = .ok (.iconst 4, 1) := by decide +kernel
theorem dX7_isSoWith_36 : decode cX7_isSoWith 36 = .ok (.iload_n 3, 1) := by decide +kernel
theorem dX7_isSoWith_37 : decode cX7_isSoWith 37 = .ok (.imul, 1) := by decide +kernel
theorem dX7_isSoWith_38 : decode cX7_isSoWith 38 = .ok (.iload 4, 2) := by decide +kernel
theorem dX7_isSoWith_40 : decode cX7_isSoWith 40 = .ok (.iadd, 1) := by decide +kernel
theorem dX7_isSoWith_41 : decode cX7_isSoWith 41 = .ok (.aload_n 0, 1) := by decide +kernel
theorem dX7_isSoWith_42 : decode cX7_isSoWith 42 = .ok (.iload 4, 2) := by decide +kernel
theorem dX7_isSoWith_44 : decode cX7_isSoWith 44 = .ok (.invokevirtual 160, 3) := by decide +kernel
theorem dX7_isSoWith_47 : decode cX7_isSoWith 47 = .ok (.iastore, 1) := by decide +kernel
theorem dX7_isSoWith_48 : decode cX7_isSoWith 48 = .ok (.iinc 4 1, 3) := by decide +kernel
theorem dX7_isSoWith_51 : decode cX7_isSoWith 51 = .ok (.goto (-29), 3) := by decide +kernel
theorem dX7_isSoWith_54 : decode cX7_isSoWith 54 = .ok (.aload_n 0, 1) := by decide +kernel
theorem dX7_isSoWith_55 : decode cX7_isSoWith 55 = .ok (.iconst 1, 1) := by decide +kernel
theorem dX7_isSoWith_56 : decode cX7_isSoWith 56 = .ok (.invokevirtual 188, 3) := by decide +kernel
theorem dX7_isSoWith_59 : decode cX7_isSoWith 59 = .ok (.iinc 3 1, 3) := by decide +kernel
theorem dX7_isSoWith_62 : decode cX7_isSoWith 62 = .ok (.goto (-49), 3) := by decide +kernel
theorem dX7_isSoWith_65 : decode cX7_isSoWith 65 = .ok (.iconst 1, 1) := by decide +kernel
theorem dX7_isSoWith_66 : decode cX7_isSoWith 66 = .ok (.istore_n 3, 1) := by decide +kernel
theorem dX7_isSoWith_67 : decode cX7_isSoWith 67 = .ok (.iconst 0, 1) := by decide +kernel
theorem dX7_isSoWith_68 : decode cX7_isSoWith 68 = .ok (.istore 4, 2) := by decide +kernel
theorem dX7_isSoWith_70 : decode cX7_isSoWith 70 = .ok (.iload 4, 2) := by decide +kernel
theorem dX7_isSoWith_72 : decode cX7_isSoWith 72 = .ok (.aload_n 0, 1) := by decide +kernel
theorem dX7_isSoWith_73 : decode cX7_isSoWith 73 = .ok (.getfield 7, 3) := by decide +kernel
theorem dX7_isSoWith_76 : decode cX7_isSoWith 76 = .ok (.bipush 38, 2) := by decide +kernel
theorem dX7_isSoWith_78 : decode cX7_isSoWith 78 = .ok (.iaload, 1) := by decide +kernel
theorem dX7_isSoWith_79 : decode cX7_isSoWith 79 = .ok (.if_icmp .ge 64, 3) := by decide +kernel
theorem dX7_isSoWith_82 : decode cX7_isSoWith 82 = .ok (.bipush 39, 2) := by decide +kernel
theorem dX7_isSoWith_84 : decode cX7_isSoWith 84 = .ok (.iconst 3, 1) := by decide +kernel
theorem dX7_isSoWith_85 : decode cX7_isSoWith 85 = .ok (.iload 4, 2) := by decide +kernel
theorem dX7_isSoWith_87 : decode cX7_isSoWith 87 = .ok (.imul, 1) := by decide +kernel
theorem dX7_isSoWith_88 : decode cX7_isSoWith 88 = .ok (.iadd, 1) := by decide +kernel
theorem dX7_isSoWith_89 : decode cX7_isSoWith 89 = .ok (.istore 5, 2) := by decide +kernel
theorem dX7_isSoWith_91 : decode cX7_isSoWith 91 = .ok (.iload_n 3, 1) := by decide +kernel
theorem dX7_isSoWith_92 : decode cX7_isSoWith 92 = .ok (.ifCond .eq 43, 3) := by decide +kernel
theorem dX7_isSoWith_95 : decode cX7_isSoWith 95 = .ok (.aload_n 0, 1) := by decide +kernel
theorem dX7_isSoWith_96 : decode cX7_isSoWith 96 = .ok (.getfield 26, 3) := by decide +kernel
theorem dX7_isSoWith_99 : decode cX7_isSoWith 99 = .ok (.iconst 4, 1) := by decide +kernel
theorem dX7_isSoWith_100 : decode cX7_isSoWith 100 = .ok (.aload_n 0, 1) := by decide +kernel
theorem dX7_isSoWith_101 : decode cX7_isSoWith 101 = .ok (.getfield 7, 3) := by decide +kernel
theorem dX7_isSoWith_104 : decode cX7_isSoWith 104 = .ok (.iload 5, 2) := by decide +kernel
theorem dX7_isSoWith_106 : decode cX7_isSoWith 106 = .ok (.iaload, 1) := by decide +kernel
theorem dX7_isSoWith_107 : decode cX7_isSoWith 107 = .ok (.imul, 1) := by decide +kernel
theorem dX7_isSoWith_108 : decode cX7_isSoWith 108 = .ok (.aload_n 0, 1) := by decide +kernel
theorem dX7_isSoWith_109 : decode cX7_isSoWith 109 = .ok (.getfield 7, 3) := by decide +kernel
theorem dX7_isSoWith_112 : decode cX7_isSoWith 112 = .ok (.iload 5, 2) := by decide +kernel
theorem dX7_isSoWith_114 : decode cX7_isSoWith 114 = .ok (.iconst 1, 1) := by decide +kernel
theorem dX7_isSoWith_115 : decode cX7_isSoWith 115 = .ok (.iadd, 1) := by decide +kernel
theorem dX7_isSoWith_116 : decode cX7_isSoWith 116 = .ok (.iaload, 1) := by decide +kernel
theorem dX7_isSoWith_117 : decode cX7_isSoWith 117 = .ok (.iadd, 1) := by decide +kernel
theorem dX7_isSoWith_118 : decode cX7_isSoWith 118 = .ok (.iaload, 1) := by decide +kernel
theorem dX7_isSoWith_119 : decode cX7_isSoWith 119 = .ok (.aload_n 0, 1) := by decide +kernel
theorem dX7_isSoWith_120 : decode cX7_isSoWith 120 = .ok (.getfield 7, 3) := by decide +kernel
theorem dX7_isSoWith_123 : decode cX7_isSoWith 123 = .ok (.iload 5, 2) := by decide +kernel
theorem dX7_isSoWith_125 : decode cX7_isSoWith 125 = .ok (.iconst 2, 1) := by decide +kernel
theorem dX7_isSoWith_126 : decode cX7_isSoWith 126 = .ok (.iadd, 1) := by decide +kernel
theorem dX7_isSoWith_127 : decode cX7_isSoWith 127 = .ok (.iaload, 1) := by decide +kernel
theorem dX7_isSoWith_128 : decode cX7_isSoWith 128 = .ok (.if_icmp .ne 7, 3) := by decide +kernel
theorem dX7_isSoWith_131 : decode cX7_isSoWith 131 = .ok (.iconst 1, 1) := by decide +kernel
theorem dX7_isSoWith_132 : decode cX7_isSoWith 132 = .ok (.goto 4, 3) := by decide +kernel
theorem dX7_isSoWith_135 : decode cX7_isSoWith 135 = .ok (.iconst 0, 1) := by decide +kernel
theorem dX7_isSoWith_136 : decode cX7_isSoWith 136 = .ok (.istore_n 3, 1) := by decide +kernel
theorem dX7_isSoWith_137 : decode cX7_isSoWith 137 = .ok (.iinc 4 1, 3) := by decide +kernel
theorem dX7_isSoWith_140 : decode cX7_isSoWith 140 = .ok (.goto (-70), 3) := by decide +kernel
theorem dX7_isSoWith_143 : decode cX7_isSoWith 143 = .ok (.iload_n 3, 1) := by decide +kernel
theorem dX7_isSoWith_144 : decode cX7_isSoWith 144 = .ok (.ireturn, 1) := by decide +kernel
theorem dX7_which_0 : decode cX7_which 0 = .ok (.iconst 0, 1) := by decide +kernel
theorem dX7_which_1 : decode cX7_which 1 = .ok (.istore_n 3, 1) := by decide +kernel
theorem dX7_which_2 : decode cX7_which 2 = .ok (.iconst 0, 1) := by decide +kernel
theorem dX7_which_3 : decode cX7_which 3 = .ok (.istore 4, 2) := by decide +kernel
theorem dX7_which_5 : decode cX7_which 5 = .ok (.iload 4, 2) := by decide +kernel
theorem dX7_which_7 : decode cX7_which 7 = .ok (.iload_n 2, 1) := by decide +kernel
theorem dX7_which_8 : decode cX7_which 8 = .ok (.if_icmp .ge 25, 3) := by decide +kernel
theorem dX7_which_11 : decode cX7_which 11 = .ok (.iload_n 3, 1) := by decide +kernel
theorem dX7_which_12 : decode cX7_which 12 = .ok (.aload_n 0, 1) := by decide +kernel
theorem dX7_which_13 : decode cX7_which 13 = .ok (.iload_n 1, 1) := by decide +kernel
theorem dX7_which_14 : decode cX7_which 14 = .ok (.iload 4, 2) := by decide +kernel
theorem dX7_which_16 : decode cX7_which 16 = .ok (.invokevirtual 295, 3) := by decide +kernel
theorem dX7_which_19 : decode cX7_which 19 = .ok (.invokestatic 194, 3) := by decide +kernel
theorem dX7_which_22 : decode cX7_which 22 = .ok (.iload 4, 2) := by decide +kernel
theorem dX7_which_24 : decode cX7_which 24 = .ok (.ishl, 1) := by decide +kernel
theorem dX7_which_25 : decode cX7_which 25 = .ok (.ior, 1) := by decide +kernel
theorem dX7_which_26 : decode cX7_which 26 = .ok (.istore_n 3, 1) := by decide +kernel
theorem dX7_which_27 : decode cX7_which 27 = .ok (.iinc 4 1, 3) := by decide +kernel
theorem dX7_which_30 : decode cX7_which 30 = .ok (.goto (-25), 3) := by decide +kernel
theorem dX7_which_33 : decode cX7_which 33 = .ok (.iload_n 3, 1) := by decide +kernel
theorem dX7_which_34 : decode cX7_which 34 = .ok (.ireturn, 1) := by decide +kernel
theorem dX7_kinds_0 : decode cX7_kinds 0 = .ok (.aload_n 0, 1) := by decide +kernel
theorem dX7_kinds_1 : decode cX7_kinds 1 = .ok (.iload_n 1, 1) := by decide +kernel
theorem dX7_kinds_2 : decode cX7_kinds 2 = .ok (.invokevirtual 210, 3) := by decide +kernel
theorem dX7_kinds_5 : decode cX7_kinds 5 = .ok (.ifCond .eq 19, 3) := by decide +kernel
theorem dX7_kinds_8 : decode cX7_kinds 8 = .ok (.aload_n 0, 1) := by decide +kernel
theorem dX7_kinds_9 : decode cX7_kinds 9 = .ok (.bipush 12, 2) := by decide +kernel
theorem dX7_kinds_11 : decode cX7_kinds 11 = .ok (.iconst 4, 1) := by decide +kernel
theorem dX7_kinds_12 : decode cX7_kinds 12 = .ok (.iload_n 1, 1) := by decide +kernel
theorem dX7_kinds_13 : decode cX7_kinds 13 = .ok (.imul, 1) := by decide +kernel
theorem dX7_kinds_14 : decode cX7_kinds 14 = .ok (.iadd, 1) := by decide +kernel
theorem dX7_kinds_15 : decode cX7_kinds 15 = .ok (.iconst 0, 1) := by decide +kernel
theorem dX7_kinds_16 : decode cX7_kinds 16 = .ok (.iadd, 1) := by decide +kernel
theorem dX7_kinds_17 : decode cX7_kinds 17 = .ok (.iconst 4, 1) := by decide +kernel
theorem dX7_kinds_18 : decode cX7_kinds 18 = .ok (.invokevirtual 299, 3) := by decide +kernel
theorem dX7_kinds_21 : decode cX7_kinds 21 = .ok (.goto 4, 3) := by decide +kernel
theorem dX7_kinds_24 : decode cX7_kinds 24 = .ok (.iconst (-1), 1) := by decide +kernel
theorem dX7_kinds_25 : decode cX7_kinds 25 = .ok (.ireturn, 1) := by decide +kernel
theorem dX7_doors_0 : decode cX7_doors 0 = .ok (.aload_n 0, 1) := by decide +kernel
theorem dX7_doors_1 : decode cX7_doors 1 = .ok (.iload_n 1, 1) := by decide +kernel
theorem dX7_doors_2 : decode cX7_doors 2 = .ok (.invokevirtual 210, 3) := by decide +kernel
theorem dX7_doors_5 : decode cX7_doors 5 = .ok (.ifCond .ne 5, 3) := by decide +kernel
theorem dX7_doors_8 : decode cX7_doors 8 = .ok (.iconst (-1), 1) := by decide +kernel
theorem dX7_doors_9 : decode cX7_doors 9 = .ok (.ireturn, 1) := by decide +kernel
theorem dX7_doors_10 : decode cX7_doors 10 = .ok (.aload_n 0, 1) := by decide +kernel
theorem dX7_doors_11 : decode cX7_doors 11 = .ok (.iload_n 1, 1) := by decide +kernel
theorem dX7_doors_12 : decode cX7_doors 12 = .ok (.invokevirtual 226, 3) := by decide +kernel
theorem dX7_doors_15 : decode cX7_doors 15 = .ok (.ifCond .eq 8, 3) := by decide +kernel
theorem dX7_doors_18 : decode cX7_doors 18 = .ok (.bipush (-2), 2) := by decide +kernel
theorem dX7_doors_20 : decode cX7_doors 20 = .ok (.goto 17, 3) := by decide +kernel
theorem dX7_doors_23 : decode cX7_doors 23 = .ok (.aload_n 0, 1) := by decide +kernel
theorem dX7_doors_24 : decode cX7_doors 24 = .ok (.bipush 12, 2) := by decide +kernel
theorem dX7_doors_26 : decode cX7_doors 26 = .ok (.iconst 4, 1) := by decide +kernel
theorem dX7_doors_27 : decode cX7_doors 27 = .ok (.iload_n 1, 1) := by decide +kernel
theorem dX7_doors_28 : decode cX7_doors 28 = .ok (.imul, 1) := by decide +kernel
theorem dX7_doors_29 : decode cX7_doors 29 = .ok (.iadd, 1) := by decide +kernel
theorem dX7_doors_30 : decode cX7_doors 30 = .ok (.iconst 1, 1) := by decide +kernel
theorem dX7_doors_31 : decode cX7_doors 31 = .ok (.iadd, 1) := by decide +kernel
theorem dX7_doors_32 : decode cX7_doors 32 = .ok (.bipush 12, 2) := by decide +kernel
theorem dX7_doors_34 : decode cX7_doors 34 = .ok (.invokevirtual 299, 3) := by decide +kernel
theorem dX7_doors_37 : decode cX7_doors 37 = .ok (.ireturn, 1) := by decide +kernel
theorem dX7_ask_0 : decode cX7_ask 0 = .ok (.aload_n 0, 1) := by decide +kernel
theorem dX7_ask_1 : decode cX7_ask 1 = .ok (.iload_n 1, 1) := by decide +kernel
theorem dX7_ask_2 : decode cX7_ask 2 = .ok (.invokevirtual 210, 3) := by decide +kernel
theorem dX7_ask_5 : decode cX7_ask 5 = .ok (.ifCond .eq 10, 3) := by decide +kernel
theorem dX7_ask_8 : decode cX7_ask 8 = .ok (.iload_n 2, 1) := by decide +kernel
theorem dX7_ask_9 : decode cX7_ask 9 = .ok (.invokestatic 216, 3) := by decide +kernel
theorem dX7_ask_12 : decode cX7_ask 12 = .ok (.ifCond .ne 5, 3) := by decide +kernel
theorem dX7_ask_15 : decode cX7_ask 15 = .ok (.iconst (-1), 1) := by decide +kernel
theorem dX7_ask_16 : decode cX7_ask 16 = .ok (.ireturn, 1) := by decide +kernel
theorem dX7_ask_17 : decode cX7_ask 17 = .ok (.iconst 0, 1) := by decide +kernel
theorem dX7_ask_18 : decode cX7_ask 18 = .ok (.istore_n 3, 1) := by decide +kernel
theorem dX7_ask_19 : decode cX7_ask 19 = .ok (.iconst 0, 1) := by decide +kernel
theorem dX7_ask_20 : decode cX7_ask 20 = .ok (.istore 4, 2) := by decide +kernel
theorem dX7_ask_22 : decode cX7_ask 22 = .ok (.iload 4, 2) := by decide +kernel
theorem dX7_ask_24 : decode cX7_ask 24 = .ok (.iconst 4, 1) := by decide +kernel
theorem dX7_ask_25 : decode cX7_ask 25 = .ok (.if_icmp .ge 68, 3) := by decide +kernel
theorem dX7_ask_28 : decode cX7_ask 28 = .ok (.aload_n 0, 1) := by decide +kernel
theorem dX7_ask_29 : decode cX7_ask 29 = .ok (.bipush 12, 2) := by decide +kernel
theorem dX7_ask_31 : decode cX7_ask 31 = .ok (.iconst 4, 1) := by decide +kernel
theorem dX7_ask_32 : decode cX7_ask 32 = .ok (.iload_n 1, 1) := by decide +kernel
theorem dX7_ask_33 : decode cX7_ask 33 = .ok (.imul, 1) := by decide +kernel
theorem dX7_ask_34 : decode cX7_ask 34 = .ok (.iadd, 1) := by decide +kernel
theorem dX7_ask_35 : decode cX7_ask 35 = .ok (.iconst 0, 1) := by decide +kernel
theorem dX7_ask_36 : decode cX7_ask 36 = .ok (.iadd, 1) := by decide +kernel
theorem dX7_ask_37 : decode cX7_ask 37 = .ok (.iload 4, 2) := by decide +kernel
theorem dX7_ask_39 : decode cX7_ask 39 = .ok (.invokevirtual 295, 3) := by decide +kernel
theorem dX7_ask_42 : decode cX7_ask 42 = .ok (.ifCond .eq 45, 3) := by decide +kernel
theorem dX7_ask_45 : decode cX7_ask 45 = .ok (.iconst 0, 1) := by decide +kernel
theorem dX7_ask_46 : decode cX7_ask 46 = .ok (.istore 5, 2) := by decide +kernel
theorem dX7_ask_48 : decode cX7_ask 48 = .ok (.iload 5, 2) := by decide +kernel
theorem dX7_ask_50 : decode cX7_ask 50 = .ok (.bipush 20, 2) := by decide +kernel
theorem dX7_ask_52 : decode cX7_ask 52 = .ok (.if_icmp .gt 32, 3) := by decide +kernel
theorem dX7_ask_55 : decode cX7_ask 55 = .ok (.aload_n 0, 1) := by decide +kernel
theorem dX7_ask_56 : decode cX7_ask 56 = .ok (.getfield 29, 3) := by decide +kernel
theorem dX7_ask_59 : decode cX7_ask 59 = .ok (.bipush 21, 2) := by decide +kernel
theorem dX7_ask_61 : decode cX7_ask 61 = .ok (.iload_n 3, 1) := by decide +kernel
theorem dX7_ask_62 : decode cX7_ask 62 = .ok (.imul, 1) := by decide +kernel
theorem dX7_ask_63 : decode cX7_ask 63 = .ok (.iload 5, 2) := by decide +kernel
theorem dX7_ask_65 : decode cX7_ask 65 = .ok (.iadd, 1) := by decide +kernel
theorem dX7_ask_66 : decode cX7_ask 66 = .ok (.aload_n 0, 1) := by decide +kernel
theorem dX7_ask_67 : decode cX7_ask 67 = .ok (.getfield 26, 3) := by decide +kernel
theorem dX7_ask_70 : decode cX7_ask 70 = .ok (.iconst 4, 1) := by decide +kernel
theorem dX7_ask_71 : decode cX7_ask 71 = .ok (.iload 5, 2) := by decide +kernel
theorem dX7_ask_73 : decode cX7_ask 73 = .ok (.imul, 1) := by decide +kernel
theorem dX7_ask_74 : decode cX7_ask 74 = .ok (.iload_n 1, 1) := by decide +kernel
theorem dX7_ask_75 : decode cX7_ask 75 = .ok (.iadd, 1) := by decide +kernel
theorem dX7_ask_76 : decode cX7_ask 76 = .ok (.iaload, 1) := by decide +kernel
theorem dX7_ask_77 : decode cX7_ask 77 = .ok (.iastore, 1) := by decide +kernel
theorem dX7_ask_78 : decode cX7_ask 78 = .ok (.iinc 5 1, 3) := by decide +kernel
theorem dX7_ask_81 : decode cX7_ask 81 = .ok (.goto (-33), 3) := by decide +kernel
theorem dX7_ask_84 : decode cX7_ask 84 = .ok (.iinc 3 1, 3) := by decide +kernel
theorem dX7_ask_87 : decode cX7_ask 87 = .ok (.iinc 4 1, 3) := by decide +kernel
theorem dX7_ask_90 : decode cX7_ask 90 = .ok (.goto (-68), 3) := by decide +kernel
theorem dX7_ask_93 : decode cX7_ask 93 = .ok (.iload_n 3, 1) := by decide +kernel
theorem dX7_ask_94 : decode cX7_ask 94 = .ok (.istore 4, 2) := by decide +kernel
theorem dX7_ask_96 : decode cX7_ask 96 = .ok (.bipush (-4), 2) := by decide +kernel
theorem dX7_ask_98 : decode cX7_ask 98 = .ok (.istore 5, 2) := by decide +kernel
theorem dX7_ask_100 : decode cX7_ask 100 = .ok (.iconst 0, 1) := by decide +kernel
theorem dX7_ask_101 : decode cX7_ask 101 = .ok (.istore 6, 2) := by decide +kernel
theorem dX7_ask_103 : decode cX7_ask 103 = .ok (.iload 6, 2) := by decide +kernel
theorem dX7_ask_105 : decode cX7_ask 105 = .ok (.bipush 20, 2) := by decide +kernel
theorem dX7_ask_107 : decode cX7_ask 107 = .ok (.if_icmp .gt 118, 3) := by decide +kernel
theorem dX7_ask_110 : decode cX7_ask 110 = .ok (.iconst 0, 1) := by decide +kernel
theorem dX7_ask_111 : decode cX7_ask 111 = .ok (.istore 7, 2) := by decide +kernel
theorem dX7_ask_113 : decode cX7_ask 113 = .ok (.iconst 0, 1) := by decide +kernel
theorem dX7_ask_114 : decode cX7_ask 114 = .ok (.istore 8, 2) := by decide +kernel
theorem dX7_ask_116 : decode cX7_ask 116 = .ok (.iload 8, 2) := by decide +kernel
theorem dX7_ask_118 : decode cX7_ask 118 = .ok (.iload_n 3, 1) := by decide +kernel
theorem dX7_ask_119 : decode cX7_ask 119 = .ok (.if_icmp .ge 85, 3) := by decide +kernel
theorem dX7_ask_122 : decode cX7_ask 122 = .ok (.iconst 0, 1) := by decide +kernel
theorem dX7_ask_123 : decode cX7_ask 123 = .ok (.istore 9, 2) := by decide +kernel
theorem dX7_ask_125 : decode cX7_ask 125 = .ok (.iconst 0, 1) := by decide +kernel
theorem dX7_ask_126 : decode cX7_ask 126 = .ok (.istore 10, 2) := by decide +kernel
theorem dX7_ask_128 : decode cX7_ask 128 = .ok (.iload 10, 2) := by decide +kernel
theorem dX7_ask_130 : decode cX7_ask 130 = .ok (.iload_n 3, 1) := by decide +kernel
theorem dX7_ask_131 : decode cX7_ask 131 = .ok (.if_icmp .ge 51, 3) := by decide +kernel
theorem dX7_ask_134 : decode cX7_ask 134 = .ok (.iload 9, 2) := by decide +kernel
theorem dX7_ask_136 : decode cX7_ask 136 = .ok (.aload_n 0, 1) := by decide +kernel
theorem dX7_ask_137 : decode cX7_ask 137 = .ok (.getfield 29, 3) := by decide +kernel
theorem dX7_ask_140 : decode cX7_ask 140 = .ok (.bipush 21, 2) := by decide +kernel
theorem dX7_ask_142 : decode cX7_ask 142 = .ok (.iload 8, 2) := by decide +kernel
theorem dX7_ask_144 : decode cX7_ask 144 = .ok (.imul, 1) := by decide +kernel
theorem dX7_ask_145 : decode cX7_ask 145 = .ok (.iload 6, 2) := by decide +kernel
theorem dX7_ask_147 : decode cX7_ask 147 = .ok (.iadd, 1) := by decide +kernel
theorem dX7_ask_148 : decode cX7_ask 148 = .ok (.iaload, 1) := by decide +kernel
theorem dX7_ask_149 : decode cX7_ask 149 = .ok (.aload_n 0, 1) := by decide +kernel
theorem dX7_ask_150 : decode cX7_ask 150 = .ok (.getfield 29, 3) := by decide +kernel
theorem dX7_ask_153 : decode cX7_ask 153 = .ok (.bipush 21, 2) := by decide +kernel
theorem dX7_ask_155 : decode cX7_ask 155 = .ok (.iload 10, 2) := by decide +kernel
theorem dX7_ask_157 : decode cX7_ask 157 = .ok (.imul, 1) := by decide +kernel
theorem dX7_ask_158 : decode cX7_ask 158 = .ok (.iload 6, 2) := by decide +kernel
theorem dX7_ask_160 : decode cX7_ask 160 = .ok (.iadd, 1) := by decide +kernel
theorem dX7_ask_161 : decode cX7_ask 161 = .ok (.iaload, 1) := by decide +kernel
theorem dX7_ask_162 : decode cX7_ask 162 = .ok (.if_icmp .ne 7, 3) := by decide +kernel
theorem dX7_ask_165 : decode cX7_ask 165 = .ok (.iconst 1, 1) := by decide +kernel
theorem dX7_ask_166 : decode cX7_ask 166 = .ok (.goto 4, 3) := by decide +kernel
theorem dX7_ask_169 : decode cX7_ask 169 = .ok (.iconst 0, 1) := by decide +kernel
theorem dX7_ask_170 : decode cX7_ask 170 = .ok (.invokestatic 194, 3) := by decide +kernel
theorem dX7_ask_173 : decode cX7_ask 173 = .ok (.iadd, 1) := by decide +kernel
theorem dX7_ask_174 : decode cX7_ask 174 = .ok (.istore 9, 2) := by decide +kernel
theorem dX7_ask_176 : decode cX7_ask 176 = .ok (.iinc 10 1, 3) := by decide +kernel
theorem dX7_ask_179 : decode cX7_ask 179 = .ok (.goto (-51), 3) := by decide +kernel
theorem dX7_ask_182 : decode cX7_ask 182 = .ok (.iload 9, 2) := by decide +kernel
theorem dX7_ask_184 : decode cX7_ask 184 = .ok (.iload 7, 2) := by decide +kernel
theorem dX7_ask_186 : decode cX7_ask 186 = .ok (.if_icmp .le 8, 3) := by decide +kernel
theorem dX7_ask_189 : decode cX7_ask 189 = .ok (.iload 9, 2) := by decide +kernel
theorem dX7_ask_191 : decode cX7_ask 191 = .ok (.goto 5, 3) := by decide +kernel
theorem dX7_ask_194 : decode cX7_ask 194 = .ok (.iload 7, 2) := by decide +kernel
theorem dX7_ask_196 : decode cX7_ask 196 = .ok (.istore 7, 2) := by decide +kernel
theorem dX7_ask_198 : decode cX7_ask 198 = .ok (.iinc 8 1, 3) := by decide +kernel
theorem dX7_ask_201 : decode cX7_ask 201 = .ok (.goto (-85), 3) := by decide +kernel
theorem dX7_ask_204 : decode cX7_ask 204 = .ok (.iload 7, 2) := by decide +kernel
theorem dX7_ask_206 : decode cX7_ask 206 = .ok (.iload 4, 2) := by decide +kernel
theorem dX7_ask_208 : decode cX7_ask 208 = .ok (.if_icmp .ge 11, 3) := by decide +kernel
theorem dX7_ask_211 : decode cX7_ask 211 = .ok (.iload 7, 2) := by decide +kernel
theorem dX7_ask_213 : decode cX7_ask 213 = .ok (.istore 4, 2) := by decide +kernel
theorem dX7_ask_215 : decode cX7_ask 215 = .ok (.iload 6, 2) := by decide +kernel
theorem dX7_ask_217 : decode cX7_ask 217 = .ok (.istore 5, 2) := by decide +kernel
theorem dX7_ask_219 : decode cX7_ask 219 = .ok (.iinc 6 1, 3) := by decide +kernel
theorem dX7_ask_222 : decode cX7_ask 222 = .ok (.goto (-119), 3) := by decide +kernel
theorem dX7_ask_225 : decode cX7_ask 225 = .ok (.iload 5, 2) := by decide +kernel
theorem dX7_ask_227 : decode cX7_ask 227 = .ok (.bipush (-4), 2) := by decide +kernel
theorem dX7_ask_229 : decode cX7_ask 229 = .ok (.if_icmp .ne 8, 3) := by decide +kernel
theorem dX7_ask_232 : decode cX7_ask 232 = .ok (.bipush (-4), 2) := by decide +kernel
theorem dX7_ask_234 : decode cX7_ask 234 = .ok (.goto 14, 3) := by decide +kernel
theorem dX7_ask_237 : decode cX7_ask 237 = .ok (.iload_n 2, 1) := by decide +kernel
theorem dX7_ask_238 : decode cX7_ask 238 = .ok (.ifCond .ne 8, 3) := by decide +kernel
theorem dX7_ask_241 : decode cX7_ask 241 = .ok (.iload 5, 2) := by decide +kernel
theorem dX7_ask_243 : decode cX7_ask 243 = .ok (.goto 5, 3) := by decide +kernel
theorem dX7_ask_246 : decode cX7_ask 246 = .ok (.iload 4, 2) := by decide +kernel
theorem dX7_ask_248 : decode cX7_ask 248 = .ok (.ireturn, 1) := by decide +kernel
theorem dX7_drift_0 : decode cX7_drift 0 = .ok (.iload_n 2, 1) := by decide +kernel
theorem dX7_drift_1 : decode cX7_drift 1 = .ok (.i2l, 1) := by decide +kernel
theorem dX7_drift_2 : decode cX7_drift 2 = .ok (.lconst 1, 1) := by decide +kernel
theorem dX7_drift_3 : decode cX7_drift 3 = .ok (.ldc2_w 242, 3) := by decide +kernel
theorem dX7_drift_6 : decode cX7_drift 6 = .ok (.invokestatic 72, 3) := by decide +kernel
theorem dX7_drift_9 : decode cX7_drift 9 = .ok (.ifCond .eq 10, 3) := by decide +kernel
theorem dX7_drift_12 : decode cX7_drift 12 = .ok (.iload_n 3, 1) := by decide +kernel
theorem dX7_drift_13 : decode cX7_drift 13 = .ok (.invokestatic 216, 3) := by decide +kernel
theorem dX7_drift_16 : decode cX7_drift 16 = .ok (.ifCond .ne 5, 3) := by decide +kernel
theorem dX7_drift_19 : decode cX7_drift 19 = .ok (.iconst (-1), 1) := by decide +kernel
theorem dX7_drift_20 : decode cX7_drift 20 = .ok (.ireturn, 1) := by decide +kernel
theorem dX7_drift_21 : decode cX7_drift 21 = .ok (.iload_n 1, 1) := by decide +kernel
theorem dX7_drift_22 : decode cX7_drift 22 = .ok (.istore 4, 2) := by decide +kernel
theorem dX7_drift_24 : decode cX7_drift 24 = .ok (.aload_n 0, 1) := by decide +kernel
theorem dX7_drift_25 : decode cX7_drift 25 = .ok (.invokevirtual 201, 3) := by decide +kernel
theorem dX7_drift_28 : decode cX7_drift 28 = .ok (.iconst 0, 1) := by decide +kernel
theorem dX7_drift_29 : decode cX7_drift 29 = .ok (.istore 5, 2) := by decide +kernel
theorem dX7_drift_31 : decode cX7_drift 31 = .ok (.iload 5, 2) := by decide +kernel
theorem dX7_drift_33 : decode cX7_drift 33 = .ok (.iload_n 2, 1) := by decide +kernel
theorem dX7_drift_34 : decode cX7_drift 34 = .ok (.if_icmp .ge 37, 3) := by decide +kernel
theorem dX7_drift_37 : decode cX7_drift 37 = .ok (.iload 4, 2) := by decide +kernel
theorem dX7_drift_39 : decode cX7_drift 39 = .ok (.ldc_w 302, 3) := by decide +kernel
theorem dX7_drift_42 : decode cX7_drift 42 = .ok (.imul, 1) := by decide +kernel
theorem dX7_drift_43 : decode cX7_drift 43 = .ok (.sipush 12345, 3) := by decide +kernel
theorem dX7_drift_46 : decode cX7_drift 46 = .ok (.iadd, 1) := by decide +kernel
theorem dX7_drift_47 : decode cX7_drift 47 = .ok (.istore 4, 2) := by decide +kernel
theorem dX7_drift_49 : decode cX7_drift 49 = .ok (.aload_n 0, 1) := by decide +kernel
theorem dX7_drift_50 : decode cX7_drift 50 = .ok (.iload 4, 2) := by decide +kernel
theorem dX7_drift_52 : decode cX7_drift 52 = .ok (.bipush 16, 2) := by decide +kernel
theorem dX7_drift_54 : decode cX7_drift 54 = .ok (.ishr, 1) := by decide +kernel
theorem dX7_drift_55 : decode cX7_drift 55 = .ok (.sipush 32767, 3) := by decide +kernel
theorem dX7_drift_58 : decode cX7_drift 58 = .ok (.iand, 1) := by decide +kernel
theorem dX7_drift_59 : decode cX7_drift 59 = .ok (.bipush 12, 2) := by decide +kernel
theorem dX7_drift_61 : decode cX7_drift 61 = .ok (.irem, 1) := by decide +kernel
theorem dX7_drift_62 : decode cX7_drift 62 = .ok (.invokevirtual 185, 3) := by decide +kernel
theorem dX7_drift_65 : decode cX7_drift 65 = .ok (.iinc 5 1, 3) := by decide +kernel
theorem dX7_drift_68 : decode cX7_drift 68 = .ok (.goto (-37), 3) := by decide +kernel
theorem dX7_drift_71 : decode cX7_drift 71 = .ok (.iload_n 3, 1) := by decide +kernel
theorem dX7_drift_72 : decode cX7_drift 72 = .ok (.ifCond .ne 10, 3) := by decide +kernel
theorem dX7_drift_75 : decode cX7_drift 75 = .ok (.aload_n 0, 1) := by decide +kernel
theorem dX7_drift_76 : decode cX7_drift 76 = .ok (.invokevirtual 191, 3) := by decide +kernel
theorem dX7_drift_79 : decode cX7_drift 79 = .ok (.goto 7, 3) := by decide +kernel
theorem dX7_drift_82 : decode cX7_drift 82 = .ok (.aload_n 0, 1) := by decide +kernel
theorem dX7_drift_83 : decode cX7_drift 83 = .ok (.invokevirtual 198, 3) := by decide +kernel
theorem dX7_drift_86 : decode cX7_drift 86 = .ok (.ireturn, 1) := by decide +kernel
theorem dX7_copies_0 : decode cX7_copies 0 = .ok (.iconst 0, 1) := by decide +kernel
theorem dX7_copies_1 : decode cX7_copies 1 = .ok (.istore_n 3, 1) := by decide +kernel
theorem dX7_copies_2 : decode cX7_copies 2 = .ok (.iload_n 3, 1) := by decide +kernel
theorem dX7_copies_3 : decode cX7_copies 3 = .ok (.bipush 57, 2) := by decide +kernel
theorem dX7_copies_5 : decode cX7_copies 5 = .ok (.if_icmp .ge 25, 3) := by decide +kernel
theorem dX7_copies_8 : decode cX7_copies 8 = .ok (.aload_n 0, 1) := by decide +kernel
theorem dX7_copies_9 : decode cX7_copies 9 = .ok (.getfield 7, 3) := by decide +kernel
theorem dX7_copies_12 : decode cX7_copies 12 = .ok (.iload_n 1, 1) := by decide +kernel
theorem dX7_copies_13 : decode cX7_copies 13 = .ok (.iload_n 3, 1) := by decide +kernel
theorem dX7_copies_14 : decode cX7_copies 14 = .ok (.iadd, 1) := by decide +kernel
theorem dX7_copies_15 : decode cX7_copies 15 = .ok (.aload_n 0, 1) := by decide +kernel
theorem dX7_copies_16 : decode cX7_copies 16 = .ok (.getfield 7, 3) := by decide +kernel
theorem dX7_copies_19 : decode cX7_copies 19 = .ok (.iload_n 2, 1) := by decide +kernel
theorem dX7_copies_20 : decode cX7_copies 20 = .ok (.iload_n 3, 1) := by decide +kernel
theorem dX7_copies_21 : decode cX7_copies 21 = .ok (.iadd, 1) := by decide +kernel
theorem dX7_copies_22 : decode cX7_copies 22 = .ok (.iaload, 1) := by decide +kernel
theorem dX7_copies_23 : decode cX7_copies 23 = .ok (.iastore, 1) := by decide +kernel
theorem dX7_copies_24 : decode cX7_copies 24 = .ok (.iinc 3 1, 3) := by decide +kernel
theorem dX7_copies_27 : decode cX7_copies 27 = .ok (.goto (-25), 3) := by decide +kernel
theorem dX7_copies_30 : decode cX7_copies 30 = .ok (.return_, 1) := by decide +kernel
theorem dX7_keep_0 : decode cX7_keep 0 = .ok (.iload_n 1, 1) := by decide +kernel
theorem dX7_keep_1 : decode cX7_keep 1 = .ok (.i2l, 1) := by decide +kernel
theorem dX7_keep_2 : decode cX7_keep 2 = .ok (.lconst 0, 1) := by decide +kernel
theorem dX7_keep_3 : decode cX7_keep 3 = .ok (.lconst 1, 1) := by decide +kernel
theorem dX7_keep_4 : decode cX7_keep 4 = .ok (.invokestatic 72, 3) := by decide +kernel
theorem dX7_keep_7 : decode cX7_keep 7 = .ok (.ifCond .ne 5, 3) := by decide +kernel
theorem dX7_keep_10 : decode cX7_keep 10 = .ok (.iconst (-1), 1) := by decide +kernel
theorem dX7_keep_11 : decode cX7_keep 11 = .ok (.ireturn, 1) := by decide +kernel
theorem dX7_keep_12 : decode cX7_keep 12 = .ok (.aload_n 0, 1) := by decide +kernel
theorem dX7_keep_13 : decode cX7_keep 13 = .ok (.getfield 16, 3) := by decide +kernel
theorem dX7_keep_16 : decode cX7_keep 16 = .ok (.iload_n 1, 1) := by decide +kernel
theorem dX7_keep_17 : decode cX7_keep 17 = .ok (.baload, 1) := by decide +kernel
theorem dX7_keep_18 : decode cX7_keep 18 = .ok (.invokestatic 194, 3) := by decide +kernel
theorem dX7_keep_21 : decode cX7_keep 21 = .ok (.istore_n 2, 1) := by decide +kernel
theorem dX7_keep_22 : decode cX7_keep 22 = .ok (.aload_n 0, 1) := by decide +kernel
theorem dX7_keep_23 : decode cX7_keep 23 = .ok (.getfield 16, 3) := by decide +kernel
theorem dX7_keep_26 : decode cX7_keep 26 = .ok (.iload_n 1, 1) := by decide +kernel
theorem dX7_keep_27 : decode cX7_keep 27 = .ok (.iconst 1, 1) := by decide +kernel
theorem dX7_keep_28 : decode cX7_keep 28 = .ok (.bastore, 1) := by decide +kernel
theorem dX7_keep_29 : decode cX7_keep 29 = .ok (.aload_n 0, 1) := by decide +kernel
theorem dX7_keep_30 : decode cX7_keep 30 = .ok (.bipush 57, 2) := by decide +kernel
theorem dX7_keep_32 : decode cX7_keep 32 = .ok (.iload_n 1, 1) := by decide +kernel
theorem dX7_keep_33 : decode cX7_keep 33 = .ok (.iconst 1, 1) := by decide +kernel
theorem dX7_keep_34 : decode cX7_keep 34 = .ok (.iadd, 1) := by decide +kernel
theorem dX7_keep_35 : decode cX7_keep 35 = .ok (.imul, 1) := by decide +kernel
theorem dX7_keep_36 : decode cX7_keep 36 = .ok (.iconst 0, 1) := by decide +kernel
theorem dX7_keep_37 : decode cX7_keep 37 = .ok (.invokevirtual 303, 3) := by decide +kernel
theorem dX7_keep_40 : decode cX7_keep 40 = .ok (.iload_n 2, 1) := by decide +kernel
theorem dX7_keep_41 : decode cX7_keep 41 = .ok (.ireturn, 1) := by decide +kernel
theorem dX7_back_0 : decode cX7_back 0 = .ok (.iload_n 1, 1) := by decide +kernel
theorem dX7_back_1 : decode cX7_back 1 = .ok (.i2l, 1) := by decide +kernel
theorem dX7_back_2 : decode cX7_back 2 = .ok (.lconst 0, 1) := by decide +kernel
theorem dX7_back_3 : decode cX7_back 3 = .ok (.lconst 1, 1) := by decide +kernel
theorem dX7_back_4 : decode cX7_back 4 = .ok (.invokestatic 72, 3) := by decide +kernel
theorem dX7_back_7 : decode cX7_back 7 = .ok (.ifCond .ne 5, 3) := by decide +kernel
theorem dX7_back_10 : decode cX7_back 10 = .ok (.iconst (-1), 1) := by decide +kernel
theorem dX7_back_11 : decode cX7_back 11 = .ok (.ireturn, 1) := by decide +kernel
theorem dX7_back_12 : decode cX7_back 12 = .ok (.aload_n 0, 1) := by decide +kernel
theorem dX7_back_13 : decode cX7_back 13 = .ok (.getfield 16, 3) := by decide +kernel
theorem dX7_back_16 : decode cX7_back 16 = .ok (.iload_n 1, 1) := by decide +kernel
theorem dX7_back_17 : decode cX7_back 17 = .ok (.baload, 1) := by decide +kernel
theorem dX7_back_18 : decode cX7_back 18 = .ok (.ifCond .ne 6, 3) := by decide +kernel
theorem dX7_back_21 : decode cX7_back 21 = .ok (.bipush (-2), 2) := by decide +kernel
theorem dX7_back_23 : decode cX7_back 23 = .ok (.ireturn, 1) := by decide +kernel
theorem dX7_back_24 : decode cX7_back 24 = .ok (.aload_n 0, 1) := by decide +kernel
theorem dX7_back_25 : decode cX7_back 25 = .ok (.iconst 0, 1) := by decide +kernel
theorem dX7_back_26 : decode cX7_back 26 = .ok (.bipush 57, 2) := by decide +kernel
theorem dX7_back_28 : decode cX7_back 28 = .ok (.iload_n 1, 1) := by decide +kernel
theorem dX7_back_29 : decode cX7_back 29 = .ok (.iconst 1, 1) := by decide +kernel
theorem dX7_back_30 : decode cX7_back 30 = .ok (.iadd, 1) := by decide +kernel
theorem dX7_back_31 : decode cX7_back 31 = .ok (.imul, 1) := by decide +kernel
theorem dX7_back_32 : decode cX7_back 32 = .ok (.invokevirtual 303, 3) := by decide +kernel
theorem dX7_back_35 : decode cX7_back 35 = .ok (.aload_n 0, 1) := by decide +kernel
theorem dX7_back_36 : decode cX7_back 36 = .ok (.getfield 7, 3) := by decide +kernel
theorem dX7_back_39 : decode cX7_back 39 = .ok (.bipush 37, 2) := by decide +kernel
theorem dX7_back_41 : decode cX7_back 41 = .ok (.iaload, 1) := by decide +kernel
theorem dX7_back_42 : decode cX7_back 42 = .ok (.ireturn, 1) := by decide +kernel
theorem dX7_isSheet_0 : decode cX7_isSheet 0 = .ok (.iload_n 0, 1) := by decide +kernel
theorem dX7_isSheet_1 : decode cX7_isSheet 1 = .ok (.i2l, 1) := by decide +kernel
theorem dX7_isSheet_2 : decode cX7_isSheet 2 = .ok (.lconst 0, 1) := by decide +kernel
theorem dX7_isSheet_3 : decode cX7_isSheet 3 = .ok (.ldc2_w 222, 3) := by decide +kernel
theorem dX7_isSheet_6 : decode cX7_isSheet 6 = .ok (.invokestatic 72, 3) := by decide +kernel
theorem dX7_isSheet_9 : decode cX7_isSheet 9 = .ok (.ifCond .eq 19, 3) := by decide +kernel
theorem dX7_isSheet_12 : decode cX7_isSheet 12 = .ok (.iload_n 1, 1) := by decide +kernel
theorem dX7_isSheet_13 : decode cX7_isSheet 13 = .ok (.i2l, 1) := by decide +kernel
theorem dX7_isSheet_14 : decode cX7_isSheet 14 = .ok (.lconst 0, 1) := by decide +kernel
theorem dX7_isSheet_15 : decode cX7_isSheet 15 = .ok (.ldc2_w 306, 3) := by decide +kernel
theorem dX7_isSheet_18 : decode cX7_isSheet 18 = .ok (.invokestatic 72, 3) := by decide +kernel
theorem dX7_isSheet_21 : decode cX7_isSheet 21 = .ok (.ifCond .eq 7, 3) := by decide +kernel
theorem dX7_isSheet_24 : decode cX7_isSheet 24 = .ok (.iconst 1, 1) := by decide +kernel
theorem dX7_isSheet_25 : decode cX7_isSheet 25 = .ok (.goto 4, 3) := by decide +kernel
theorem dX7_isSheet_28 : decode cX7_isSheet 28 = .ok (.iconst 0, 1) := by decide +kernel
theorem dX7_isSheet_29 : decode cX7_isSheet 29 = .ok (.ireturn, 1) := by decide +kernel
theorem dX7_sheet_0 : decode cX7_sheet 0 = .ok (.iload_n 1, 1) := by decide +kernel
theorem dX7_sheet_1 : decode cX7_sheet 1 = .ok (.iload_n 2, 1) := by decide +kernel
theorem dX7_sheet_2 : decode cX7_sheet 2 = .ok (.invokestatic 308, 3) := by decide +kernel
theorem dX7_sheet_5 : decode cX7_sheet 5 = .ok (.ifCond .eq 9, 3) := by decide +kernel
theorem dX7_sheet_8 : decode cX7_sheet 8 = .ok (.iload_n 3, 1) := by decide +kernel
theorem dX7_sheet_9 : decode cX7_sheet 9 = .ok (.bipush 40, 2) := by decide +kernel
theorem dX7_sheet_11 : decode cX7_sheet 11 = .ok (.if_icmp .le 5, 3) := by decide +kernel
theorem dX7_sheet_14 : decode cX7_sheet 14 = .ok (.iconst (-1), 1) := by decide +kernel
theorem dX7_sheet_15 : decode cX7_sheet 15 = .ok (.ireturn, 1) := by decide +kernel
theorem dX7_sheet_16 : decode cX7_sheet 16 = .ok (.iload_n 3, 1) := by decide +kernel
theorem dX7_sheet_17 : decode cX7_sheet 17 = .ok (.ifCond .ge 6, 3) := by decide +kernel
theorem dX7_sheet_20 : decode cX7_sheet 20 = .ok (.bipush (-14), 2) := by decide +kernel
theorem dX7_sheet_22 : decode cX7_sheet 22 = .ok (.ireturn, 1) := by decide +kernel
theorem dX7_sheet_23 : decode cX7_sheet 23 = .ok (.aload_n 0, 1) := by decide +kernel
theorem dX7_sheet_24 : decode cX7_sheet 24 = .ok (.getfield 32, 3) := by decide +kernel
theorem dX7_sheet_27 : decode cX7_sheet 27 = .ok (.iload_n 1, 1) := by decide +kernel
theorem dX7_sheet_28 : decode cX7_sheet 28 = .ok (.iload_n 2, 1) := by decide +kernel
theorem dX7_sheet_29 : decode cX7_sheet 29 = .ok (.iastore, 1) := by decide +kernel
theorem dX7_sheet_30 : decode cX7_sheet 30 = .ok (.aload_n 0, 1) := by decide +kernel
theorem dX7_sheet_31 : decode cX7_sheet 31 = .ok (.getfield 35, 3) := by decide +kernel
theorem dX7_sheet_34 : decode cX7_sheet 34 = .ok (.iload_n 1, 1) := by decide +kernel
theorem dX7_sheet_35 : decode cX7_sheet 35 = .ok (.iload_n 3, 1) := by decide +kernel
theorem dX7_sheet_36 : decode cX7_sheet 36 = .ok (.iastore, 1) := by decide +kernel
theorem dX7_sheet_37 : decode cX7_sheet 37 = .ok (.iconst 0, 1) := by decide +kernel
theorem dX7_sheet_38 : decode cX7_sheet 38 = .ok (.istore 4, 2) := by decide +kernel
theorem dX7_sheet_40 : decode cX7_sheet 40 = .ok (.iload 4, 2) := by decide +kernel
theorem dX7_sheet_42 : decode cX7_sheet 42 = .ok (.bipush 40, 2) := by decide +kernel
theorem dX7_sheet_44 : decode cX7_sheet 44 = .ok (.if_icmp .ge 22, 3) := by decide +kernel
theorem dX7_sheet_47 : decode cX7_sheet 47 = .ok (.aload_n 0, 1) := by decide +kernel
theorem dX7_sheet_48 : decode cX7_sheet 48 = .ok (.getfield 38, 3) := by decide +kernel
theorem dX7_sheet_51 : decode cX7_sheet 51 = .ok (.bipush 40, 2) := by decide +kernel
theorem dX7_sheet_53 : decode cX7_sheet 53 = .ok (.iload_n 1, 1) := by decide +kernel
theorem dX7_sheet_54 : decode cX7_sheet 54 = .ok (.imul, 1) := by decide +kernel
theorem dX7_sheet_55 : decode cX7_sheet 55 = .ok (.iload 4, 2) := by decide +kernel
theorem dX7_sheet_57 : decode cX7_sheet 57 = .ok (.iadd, 1) := by decide +kernel
theorem dX7_sheet_58 : decode cX7_sheet 58 = .ok (.iconst 0, 1) := by decide +kernel
theorem dX7_sheet_59 : decode cX7_sheet 59 = .ok (.iastore, 1) := by decide +kernel
theorem dX7_sheet_60 : decode cX7_sheet 60 = .ok (.iinc 4 1, 3) := by decide +kernel
theorem dX7_sheet_63 : decode cX7_sheet 63 = .ok (.goto (-23), 3) := by decide +kernel
theorem dX7_sheet_66 : decode cX7_sheet 66 = .ok (.iconst 1, 1) := by decide +kernel
theorem dX7_sheet_67 : decode cX7_sheet 67 = .ok (.ireturn, 1) := by decide +kernel
theorem dX7_lay_0 : decode cX7_lay 0 = .ok (.iload_n 1, 1) := by decide +kernel
theorem dX7_lay_1 : decode cX7_lay 1 = .ok (.iconst 0, 1) := by decide +kernel
theorem dX7_lay_2 : decode cX7_lay 2 = .ok (.invokestatic 308, 3) := by decide +kernel
theorem dX7_lay_5 : decode cX7_lay 5 = .ok (.ifCond .ne 5, 3) := by decide +kernel
theorem dX7_lay_8 : decode cX7_lay 8 = .ok (.iconst (-1), 1) := by decide +kernel
theorem dX7_lay_9 : decode cX7_lay 9 = .ok (.ireturn, 1) := by decide +kernel
theorem dX7_lay_10 : decode cX7_lay 10 = .ok (.aload_n 0, 1) := by decide +kernel
theorem dX7_lay_11 : decode cX7_lay 11 = .ok (.getfield 32, 3) := by decide +kernel
theorem dX7_lay_14 : decode cX7_lay 14 = .ok (.iload_n 1, 1) := by decide +kernel
theorem dX7_lay_15 : decode cX7_lay 15 = .ok (.iaload, 1) := by decide +kernel
theorem dX7_lay_16 : decode cX7_lay 16 = .ok (.bipush (-4), 2) := by decide +kernel
theorem dX7_lay_18 : decode cX7_lay 18 = .ok (.if_icmp .ne 6, 3) := by decide +kernel
theorem dX7_lay_21 : decode cX7_lay 21 = .ok (.bipush (-11), 2) := by decide +kernel
theorem dX7_lay_23 : decode cX7_lay 23 = .ok (.ireturn, 1) := by decide +kernel
theorem dX7_lay_24 : decode cX7_lay 24 = .ok (.iload_n 2, 1) := by decide +kernel
theorem dX7_lay_25 : decode cX7_lay 25 = .ok (.i2l, 1) := by decide +kernel
theorem dX7_lay_26 : decode cX7_lay 26 = .ok (.lconst 0, 1) := by decide +kernel
theorem dX7_lay_27 : decode cX7_lay 27 = .ok (.aload_n 0, 1) := by decide +kernel
theorem dX7_lay_28 : decode cX7_lay 28 = .ok (.getfield 35, 3) := by decide +kernel
theorem dX7_lay_31 : decode cX7_lay 31 = .ok (.iload_n 1, 1) := by decide +kernel
theorem dX7_lay_32 : decode cX7_lay 32 = .ok (.iaload, 1) := by decide +kernel
theorem dX7_lay_33 : decode cX7_lay 33 = .ok (.iconst 1, 1) := by decide +kernel
theorem dX7_lay_34 : decode cX7_lay 34 = .ok (.isub, 1) := by decide +kernel
theorem dX7_lay_35 : decode cX7_lay 35 = .ok (.i2l, 1) := by decide +kernel
theorem dX7_lay_36 : decode cX7_lay 36 = .ok (.invokestatic 72, 3) := by decide +kernel
theorem dX7_lay_39 : decode cX7_lay 39 = .ok (.ifCond .ne 6, 3) := by decide +kernel
theorem dX7_lay_42 : decode cX7_lay 42 = .ok (.bipush (-12), 2) := by decide +kernel
theorem dX7_lay_44 : decode cX7_lay 44 = .ok (.ireturn, 1) := by decide +kernel
theorem dX7_lay_45 : decode cX7_lay 45 = .ok (.aload_n 0, 1) := by decide +kernel
theorem dX7_lay_46 : decode cX7_lay 46 = .ok (.getfield 38, 3) := by decide +kernel
theorem dX7_lay_49 : decode cX7_lay 49 = .ok (.bipush 40, 2) := by decide +kernel
theorem dX7_lay_51 : decode cX7_lay 51 = .ok (.iload_n 1, 1) := by decide +kernel
theorem dX7_lay_52 : decode cX7_lay 52 = .ok (.imul, 1) := by decide +kernel
theorem dX7_lay_53 : decode cX7_lay 53 = .ok (.iload_n 2, 1) := by decide +kernel
theorem dX7_lay_54 : decode cX7_lay 54 = .ok (.iadd, 1) := by decide +kernel
theorem dX7_lay_55 : decode cX7_lay 55 = .ok (.aload_n 0, 1) := by decide +kernel
theorem dX7_lay_56 : decode cX7_lay 56 = .ok (.getfield 32, 3) := by decide +kernel
theorem dX7_lay_59 : decode cX7_lay 59 = .ok (.iload_n 1, 1) := by decide +kernel
theorem dX7_lay_60 : decode cX7_lay 60 = .ok (.iaload, 1) := by decide +kernel
theorem dX7_lay_61 : decode cX7_lay 61 = .ok (.ifCond .ne 8, 3) := by decide +kernel
theorem dX7_lay_64 : decode cX7_lay 64 = .ok (.iload_n 3, 1) := by decide +kernel
theorem dX7_lay_65 : decode cX7_lay 65 = .ok (.i2b, 1) := by decide +kernel
theorem dX7_lay_66 : decode cX7_lay 66 = .ok (.goto 19, 3) := by decide +kernel
theorem dX7_lay_69 : decode cX7_lay 69 = .ok (.aload_n 0, 1) := by decide +kernel
theorem dX7_lay_70 : decode cX7_lay 70 = .ok (.getfield 32, 3) := by decide +kernel
theorem dX7_lay_73 : decode cX7_lay 73 = .ok (.iload_n 1, 1) := by decide +kernel
theorem dX7_lay_74 : decode cX7_lay 74 = .ok (.iaload, 1) := by decide +kernel
theorem dX7_lay_75 : decode cX7_lay 75 = .ok (.iconst 1, 1) := by decide +kernel
theorem dX7_lay_76 : decode cX7_lay 76 = .ok (.if_icmp .ne 8, 3) := by decide +kernel
theorem dX7_lay_79 : decode cX7_lay 79 = .ok (.iload_n 3, 1) := by decide +kernel
theorem dX7_lay_80 : decode cX7_lay 80 = .ok (.i2s, 1) := by decide +kernel
theorem dX7_lay_81 : decode cX7_lay 81 = .ok (.goto 4, 3) := by decide +kernel
theorem dX7_lay_84 : decode cX7_lay 84 = .ok (.iload_n 3, 1) := by decide +kernel
theorem dX7_lay_85 : decode cX7_lay 85 = .ok (.iastore, 1) := by decide +kernel
theorem dX7_lay_86 : decode cX7_lay 86 = .ok (.iconst 1, 1) := by decide +kernel
theorem dX7_lay_87 : decode cX7_lay 87 = .ok (.ireturn, 1) := by decide +kernel
theorem dX7_read_0 : decode cX7_read 0 = .ok (.iload_n 1, 1) := by decide +kernel
theorem dX7_read_1 : decode cX7_read 1 = .ok (.iload_n 2, 1) := by decide +kernel
theorem dX7_read_2 : decode cX7_read 2 = .ok (.invokestatic 308, 3) := by decide +kernel
theorem dX7_read_5 : decode cX7_read 5 = .ok (.ifCond .eq 16, 3) := by decide +kernel
theorem dX7_read_8 : decode cX7_read 8 = .ok (.iload 4, 2) := by decide +kernel
theorem dX7_read_10 : decode cX7_read 10 = .ok (.i2l, 1) := by decide +kernel
theorem dX7_read_11 : decode cX7_read 11 = .ok (.lconst 0, 1) := by decide +kernel
theorem dX7_read_12 : decode cX7_read 12 = .ok (.ldc2_w 224, 3) := by decide +kernel
theorem dX7_read_15 : decode cX7_read 15 = .ok (.invokestatic 72, 3) := by decide +kernel
theorem dX7_read_18 : decode cX7_read 18 = .ok (.ifCond .ne 5, 3) := by decide +kernel
theorem dX7_read_21 : decode cX7_read 21 = .ok (.iconst (-1), 1) := by decide +kernel
theorem dX7_read_22 : decode cX7_read 22 = .ok (.ireturn, 1) := by decide +kernel
theorem dX7_read_23 : decode cX7_read 23 = .ok (.iconst 0, 1) := by decide +kernel
theorem dX7_read_24 : decode cX7_read 24 = .ok (.istore 5, 2) := by decide +kernel
theorem dX7_read_26 : decode cX7_read 26 = .ok (.iload 5, 2) := by decide +kernel
theorem dX7_read_28 : decode cX7_read 28 = .ok (.bipush 57, 2) := by decide +kernel
theorem dX7_read_30 : decode cX7_read 30 = .ok (.if_icmp .ge 23, 3) := by decide +kernel
theorem dX7_read_33 : decode cX7_read 33 = .ok (.aload_n 0, 1) := by decide +kernel
theorem dX7_read_34 : decode cX7_read 34 = .ok (.getfield 41, 3) := by decide +kernel
theorem dX7_read_37 : decode cX7_read 37 = .ok (.iload 5, 2) := by decide +kernel
theorem dX7_read_39 : decode cX7_read 39 = .ok (.aload_n 0, 1) := by decide +kernel
theorem dX7_read_40 : decode cX7_read 40 = .ok (.getfield 7, 3) := by decide +kernel
theorem dX7_read_43 : decode cX7_read 43 = .ok (.iload 5, 2) := by decide +kernel
theorem dX7_read_45 : decode cX7_read 45 = .ok (.iaload, 1) := by decide +kernel
theorem dX7_read_46 : decode cX7_read 46 = .ok (.iastore, 1) := by decide +kernel
theorem dX7_read_47 : decode cX7_read 47 = .ok (.iinc 5 1, 3) := by decide +kernel
theorem dX7_read_50 : decode cX7_read 50 = .ok (.goto (-24), 3) := by decide +kernel
theorem dX7_read_53 : decode cX7_read 53 = .ok (.iconst 0, 1) := by decide +kernel
theorem dX7_read_54 : decode cX7_read 54 = .ok (.istore 5, 2) := by decide +kernel
theorem dX7_read_56 : decode cX7_read 56 = .ok (.iconst 0, 1) := by decide +kernel
theorem dX7_read_57 : decode cX7_read 57 = .ok (.istore 6, 2) := by decide +kernel
theorem dX7_read_59 : decode cX7_read 59 = .ok (.iconst 0, 1) := by decide +kernel
theorem dX7_read_60 : decode cX7_read 60 = .ok (.istore 7, 2) := by decide +kernel
theorem dX7_read_62 : decode cX7_read 62 = .ok (.iload 7, 2) := by decide +kernel
theorem dX7_read_64 : decode cX7_read 64 = .ok (.iload 4, 2) := by decide +kernel
theorem dX7_read_66 : decode cX7_read 66 = .ok (.if_icmp .ge 185, 3) := by decide +kernel
theorem dX7_read_69 : decode cX7_read 69 = .ok (.iload 5, 2) := by decide +kernel
theorem dX7_read_71 : decode cX7_read 71 = .ok (.ifCond .ne 180, 3) := by decide +kernel
theorem dX7_read_74 : decode cX7_read 74 = .ok (.iconst 0, 1) := by decide +kernel
theorem dX7_read_75 : decode cX7_read 75 = .ok (.istore 8, 2) := by decide +kernel
theorem dX7_read_77 : decode cX7_read 77 = .ok (.iload 8, 2) := by decide +kernel
theorem dX7_read_79 : decode cX7_read 79 = .ok (.iconst 2, 1) := by decide +kernel
theorem dX7_read_80 : decode cX7_read 80 = .ok (.if_icmp .ge 84, 3) := by decide +kernel
theorem dX7_read_83 : decode cX7_read 83 = .ok (.iload 5, 2) := by decide +kernel
theorem dX7_read_85 : decode cX7_read 85 = .ok (.ifCond .ne 79, 3) := by decide +kernel
theorem dX7_read_88 : decode cX7_read 88 = .ok (.iload_n 3, 1) := by decide +kernel
theorem dX7_read_89 : decode cX7_read 89 = .ok (.i2l, 1) := by decide +kernel
theorem dX7_read_90 : decode cX7_read 90 = .ok (.iconst 2, 1) := by decide +kernel
theorem dX7_read_91 : decode cX7_read 91 = .ok (.iload 7, 2) := by decide +kernel
theorem dX7_read_93 : decode cX7_read 93 = .ok (.imul, 1) := by decide +kernel
theorem dX7_read_94 : decode cX7_read 94 = .ok (.i2l, 1) := by decide +kernel
theorem dX7_read_95 : decode cX7_read 95 = .ok (.ladd, 1) := by decide +kernel
theorem dX7_read_96 : decode cX7_read 96 = .ok (.iload 8, 2) := by decide +kernel
theorem dX7_read_98 : decode cX7_read 98 = .ok (.i2l, 1) := by decide +kernel
theorem dX7_read_99 : decode cX7_read 99 = .ok (.ladd, 1) := by decide +kernel
theorem dX7_read_100 : decode cX7_read 100 = .ok (.lstore 9, 2) := by decide +kernel
theorem dX7_read_102 : decode cX7_read 102 = .ok (.aload_n 0, 1) := by decide +kernel
theorem dX7_read_103 : decode cX7_read 103 = .ok (.getfield 32, 3) := by decide +kernel
theorem dX7_read_106 : decode cX7_read 106 = .ok (.iload_n 1, 1) := by decide +kernel
theorem dX7_read_107 : decode cX7_read 107 = .ok (.iaload, 1) := by decide +kernel
theorem dX7_read_108 : decode cX7_read 108 = .ok (.bipush (-4), 2) := by decide +kernel
theorem dX7_read_110 : decode cX7_read 110 = .ok (.if_icmp .ne 7, 3) := by decide +kernel
theorem dX7_read_113 : decode cX7_read 113 = .ok (.iconst 1, 1) := by decide +kernel
theorem dX7_read_114 : decode cX7_read 114 = .ok (.goto 42, 3) := by decide +kernel
theorem dX7_read_117 : decode cX7_read 117 = .ok (.aload_n 0, 1) := by decide +kernel
theorem dX7_read_118 : decode cX7_read 118 = .ok (.getfield 32, 3) := by decide +kernel
theorem dX7_read_121 : decode cX7_read 121 = .ok (.iload_n 1, 1) := by decide +kernel
theorem dX7_read_122 : decode cX7_read 122 = .ok (.iaload, 1) := by decide +kernel
theorem dX7_read_123 : decode cX7_read 123 = .ok (.iload_n 2, 1) := by decide +kernel
theorem dX7_read_124 : decode cX7_read 124 = .ok (.if_icmp .eq 7, 3) := by decide +kernel
theorem dX7_read_127 : decode cX7_read 127 = .ok (.iconst 3, 1) := by decide +kernel
theorem dX7_read_128 : decode cX7_read 128 = .ok (.goto 28, 3) := by decide +kernel
theorem dX7_read_131 : decode cX7_read 131 = .ok (.lload 9, 2) := by decide +kernel
theorem dX7_read_133 : decode cX7_read 133 = .ok (.lconst 0, 1) := by decide +kernel
theorem dX7_read_134 : decode cX7_read 134 = .ok (.lcmp, 1) := by decide +kernel
theorem dX7_read_135 : decode cX7_read 135 = .ok (.ifCond .lt 16, 3) := by decide +kernel
theorem dX7_read_138 : decode cX7_read 138 = .ok (.lload 9, 2) := by decide +kernel
theorem dX7_read_140 : decode cX7_read 140 = .ok (.aload_n 0, 1) := by decide +kernel
theorem dX7_read_141 : decode cX7_read 141 = .ok (.getfield 35, 3) := by decide +kernel
theorem dX7_read_144 : decode cX7_read 144 = .ok (.iload_n 1, 1) := by decide +kernel
theorem dX7_read_145 : decode cX7_read 145 = .ok (.iaload, 1) := by decide +kernel
theorem dX7_read_146 : decode cX7_read 146 = .ok (.i2l, 1) := by decide +kernel
theorem dX7_read_147 : decode cX7_read 147 = .ok (.lcmp, 1) := by decide +kernel
theorem dX7_read_148 : decode cX7_read 148 = .ok (.ifCond .lt 7, 3) := by decide +kernel
theorem dX7_read_151 : decode cX7_read 151 = .ok (.iconst 2, 1) := by decide +kernel
theorem dX7_read_152 : decode cX7_read 152 = .ok (.goto 4, 3) := by decide +kernel
theorem dX7_read_155 : decode cX7_read 155 = .ok (.iconst 0, 1) := by decide +kernel
theorem dX7_read_156 : decode cX7_read 156 = .ok (.istore 5, 2) := by decide +kernel
theorem dX7_read_158 : decode cX7_read 158 = .ok (.iinc 8 1, 3) := by decide +kernel
theorem dX7_read_161 : decode cX7_read 161 = .ok (.goto (-84), 3) := by decide +kernel
theorem dX7_read_164 : decode cX7_read 164 = .ok (.iload 5, 2) := by decide +kernel
theorem dX7_read_166 : decode cX7_read 166 = .ok (.ifCond .ne 79, 3) := by decide +kernel
theorem dX7_read_169 : decode cX7_read 169 = .ok (.bipush 40, 2) := by decide +kernel
theorem dX7_read_171 : decode cX7_read 171 = .ok (.iload_n 1, 1) := by decide +kernel
theorem dX7_read_172 : decode cX7_read 172 = .ok (.imul, 1) := by decide +kernel
theorem dX7_read_173 : decode cX7_read 173 = .ok (.iload_n 3, 1) := by decide +kernel
theorem dX7_read_174 : decode cX7_read 174 = .ok (.iadd, 1) := by decide +kernel
theorem dX7_read_175 : decode cX7_read 175 = .ok (.iconst 2, 1) := by decide +kernel
theorem dX7_read_176 : decode cX7_read 176 = .ok (.iload 7, 2) := by decide +kernel
theorem dX7_read_178 : decode cX7_read 178 = .ok (.imul, 1) := by decide +kernel
theorem dX7_read_179 : decode cX7_read 179 = .ok (.iadd, 1) := by decide +kernel
theorem dX7_read_180 : decode cX7_read 180 = .ok (.istore 8, 2) := by decide +kernel
theorem dX7_read_182 : decode cX7_read 182 = .ok (.aload_n 0, 1) := by decide +kernel
theorem dX7_read_183 : decode cX7_read 183 = .ok (.aload_n 0, 1) := by decide +kernel
theorem dX7_read_184 : decode cX7_read 184 = .ok (.getfield 38, 3) := by decide +kernel
theorem dX7_read_187 : decode cX7_read 187 = .ok (.iload 8, 2) := by decide +kernel
theorem dX7_read_189 : decode cX7_read 189 = .ok (.iaload, 1) := by decide +kernel
theorem dX7_read_190 : decode cX7_read 190 = .ok (.iconst 1, 1) := by decide +kernel
theorem dX7_read_191 : decode cX7_read 191 = .ok (.aload_n 0, 1) := by decide +kernel
theorem dX7_read_192 : decode cX7_read 192 = .ok (.getfield 38, 3) := by decide +kernel
theorem dX7_read_195 : decode cX7_read 195 = .ok (.iload 8, 2) := by decide +kernel
theorem dX7_read_197 : decode cX7_read 197 = .ok (.iconst 1, 1) := by decide +kernel
theorem dX7_read_198 : decode cX7_read 198 = .ok (.iadd, 1) := by decide +kernel
theorem dX7_read_199 : decode cX7_read 199 = .ok (.iaload, 1) := by decide +kernel
theorem dX7_read_200 : decode cX7_read 200 = .ok (.invokevirtual 311, 3) := by decide +kernel
theorem dX7_read_203 : decode cX7_read 203 = .ok (.ifCond .ge 39, 3) := by decide +kernel
theorem dX7_read_206 : decode cX7_read 206 = .ok (.iconst 0, 1) := by decide +kernel
theorem dX7_read_207 : decode cX7_read 207 = .ok (.istore 9, 2) := by decide +kernel
theorem dX7_read_209 : decode cX7_read 209 = .ok (.iload 9, 2) := by decide +kernel
theorem dX7_read_211 : decode cX7_read 211 = .ok (.bipush 57, 2) := by decide +kernel
theorem dX7_read_213 : decode cX7_read 213 = .ok (.if_icmp .ge 23, 3) := by decide +kernel
theorem dX7_read_216 : decode cX7_read 216 = .ok (.aload_n 0, 1) := by decide +kernel
theorem dX7_read_217 : decode cX7_read 217 = .ok (.getfield 7, 3) := by decide +kernel
theorem dX7_read_220 : decode cX7_read 220 = .ok (.iload 9, 2) := by decide +kernel
theorem dX7_read_222 : decode cX7_read 222 = .ok (.aload_n 0, 1) := by decide +kernel
theorem dX7_read_223 : decode cX7_read 223 = .ok (.getfield 41, 3) := by decide +kernel
theorem dX7_read_226 : decode cX7_read 226 = .ok (.iload 9, 2) := by decide +kernel
theorem dX7_read_228 : decode cX7_read 228 = .ok (.iaload, 1) := by decide +kernel
theorem dX7_read_229 : decode cX7_read 229 = .ok (.iastore, 1) := by decide +kernel
theorem dX7_read_230 : decode cX7_read 230 = .ok (.iinc 9 1, 3) := by decide +kernel
theorem dX7_read_233 : decode cX7_read 233 = .ok (.goto (-24), 3) := by decide +kernel
theorem dX7_read_236 : decode cX7_read 236 = .ok (.bipush (-20), 2) := by decide +kernel
theorem dX7_read_238 : decode cX7_read 238 = .ok (.iload 7, 2) := by decide +kernel
theorem dX7_read_240 : decode cX7_read 240 = .ok (.isub, 1) := by decide +kernel
theorem dX7_read_241 : decode cX7_read 241 = .ok (.ireturn, 1) := by decide +kernel
theorem dX7_read_242 : decode cX7_read 242 = .ok (.iinc 6 1, 3) := by decide +kernel
theorem dX7_read_245 : decode cX7_read 245 = .ok (.iinc 7 1, 3) := by decide +kernel
theorem dX7_read_248 : decode cX7_read 248 = .ok (.goto (-186), 3) := by decide +kernel
theorem dX7_read_251 : decode cX7_read 251 = .ok (.aload_n 0, 1) := by decide +kernel
theorem dX7_read_252 : decode cX7_read 252 = .ok (.iload 5, 2) := by decide +kernel
theorem dX7_read_254 : decode cX7_read 254 = .ok (.putfield 315, 3) := by decide +kernel
theorem dX7_read_257 : decode cX7_read 257 = .ok (.iload 6, 2) := by decide +kernel
theorem dX7_read_259 : decode cX7_read 259 = .ok (.ireturn, 1) := by decide +kernel
theorem dX7_torn_0 : decode cX7_torn 0 = .ok (.aload_n 0, 1) := by decide +kernel
theorem dX7_torn_1 : decode cX7_torn 1 = .ok (.getfield 315, 3) := by decide +kernel
theorem dX7_torn_4 : decode cX7_torn 4 = .ok (.ireturn, 1) := by decide +kernel
theorem dX7_count_0 : decode cX7_count 0 = .ok (.iconst 0, 1) := by decide +kernel
theorem dX7_count_1 : decode cX7_count 1 = .ok (.istore_n 2, 1) := by decide +kernel
theorem dX7_count_2 : decode cX7_count 2 = .ok (.iconst 0, 1) := by decide +kernel
theorem dX7_count_3 : decode cX7_count 3 = .ok (.istore_n 3, 1) := by decide +kernel
theorem dX7_count_4 : decode cX7_count 4 = .ok (.iconst 0, 1) := by decide +kernel
theorem dX7_count_5 : decode cX7_count 5 = .ok (.istore 4, 2) := by decide +kernel
theorem dX7_count_7 : decode cX7_count 7 = .ok (.iload 4, 2) := by decide +kernel
theorem dX7_count_9 : decode cX7_count 9 = .ok (.aload_n 0, 1) := by decide +kernel
theorem dX7_count_10 : decode cX7_count 10 = .ok (.getfield 67, 3) := by decide +kernel
theorem dX7_count_13 : decode cX7_count 13 = .ok (.if_icmp .ge 26, 3) := by decide +kernel
theorem dX7_count_16 : decode cX7_count 16 = .ok (.iload_n 2, 1) := by decide +kernel
theorem dX7_count_17 : decode cX7_count 17 = .ok (.aload_n 0, 1) := by decide +kernel
theorem dX7_count_18 : decode cX7_count 18 = .ok (.getfield 7, 3) := by decide +kernel
theorem dX7_count_21 : decode cX7_count 21 = .ok (.bipush 12, 2) := by decide +kernel
theorem dX7_count_23 : decode cX7_count 23 = .ok (.iconst 4, 1) := by decide +kernel
theorem dX7_count_24 : decode cX7_count 24 = .ok (.iload 4, 2) := by decide +kernel
theorem dX7_count_26 : decode cX7_count 26 = .ok (.imul, 1) := by decide +kernel
theorem dX7_count_27 : decode cX7_count 27 = .ok (.iadd, 1) := by decide +kernel
theorem dX7_count_28 : decode cX7_count 28 = .ok (.iconst 2, 1) := by decide +kernel
theorem dX7_count_29 : decode cX7_count 29 = .ok (.iadd, 1) := by decide +kernel
theorem dX7_count_30 : decode cX7_count 30 = .ok (.iaload, 1) := by decide +kernel
theorem dX7_count_31 : decode cX7_count 31 = .ok (.iadd, 1) := by decide +kernel
theorem dX7_count_32 : decode cX7_count 32 = .ok (.istore_n 2, 1) := by decide +kernel
theorem dX7_count_33 : decode cX7_count 33 = .ok (.iinc 4 1, 3) := by decide +kernel
theorem dX7_count_36 : decode cX7_count 36 = .ok (.goto (-29), 3) := by decide +kernel
theorem dX7_count_39 : decode cX7_count 39 = .ok (.iconst 0, 1) := by decide +kernel
theorem dX7_count_40 : decode cX7_count 40 = .ok (.istore 4, 2) := by decide +kernel
theorem dX7_count_42 : decode cX7_count 42 = .ok (.iload 4, 2) := by decide +kernel
theorem dX7_count_44 : decode cX7_count 44 = .ok (.bipush 12, 2) := by decide +kernel
theorem dX7_count_46 : decode cX7_count 46 = .ok (.if_icmp .ge 19, 3) := by decide +kernel
theorem dX7_count_49 : decode cX7_count 49 = .ok (.iload_n 3, 1) := by decide +kernel
theorem dX7_count_50 : decode cX7_count 50 = .ok (.aload_n 0, 1) := by decide +kernel
theorem dX7_count_51 : decode cX7_count 51 = .ok (.getfield 7, 3) := by decide +kernel
theorem dX7_count_54 : decode cX7_count 54 = .ok (.iload 4, 2) := by decide +kernel
theorem dX7_count_56 : decode cX7_count 56 = .ok (.iaload, 1) := by decide +kernel
theorem dX7_count_57 : decode cX7_count 57 = .ok (.iadd, 1) := by decide +kernel
theorem dX7_count_58 : decode cX7_count 58 = .ok (.istore_n 3, 1) := by decide +kernel
theorem dX7_count_59 : decode cX7_count 59 = .ok (.iinc 4 1, 3) := by decide +kernel
theorem dX7_count_62 : decode cX7_count 62 = .ok (.goto (-20), 3) := by decide +kernel
theorem dX7_count_65 : decode cX7_count 65 = .ok (.iload_n 1, 1) := by decide +kernel
theorem dX7_count_66 : decode cX7_count 66 = .ok (.tableswitch 98 0 5 #[38, 46, 66, 71, 94, 96], 38) := by decide +kernel
theorem dX7_count_104 : decode cX7_count 104 = .ok (.aload_n 0, 1) := by decide +kernel
theorem dX7_count_105 : decode cX7_count 105 = .ok (.getfield 7, 3) := by decide +kernel
theorem dX7_count_108 : decode cX7_count 108 = .ok (.bipush 38, 2) := by decide +kernel
theorem dX7_count_110 : decode cX7_count 110 = .ok (.iaload, 1) := by decide +kernel
theorem dX7_count_111 : decode cX7_count 111 = .ok (.ireturn, 1) := by decide +kernel
theorem dX7_count_112 : decode cX7_count 112 = .ok (.aload_n 0, 1) := by decide +kernel
theorem dX7_count_113 : decode cX7_count 113 = .ok (.getfield 16, 3) := by decide +kernel
theorem dX7_count_116 : decode cX7_count 116 = .ok (.iconst 0, 1) := by decide +kernel
theorem dX7_count_117 : decode cX7_count 117 = .ok (.baload, 1) := by decide +kernel
theorem dX7_count_118 : decode cX7_count 118 = .ok (.invokestatic 194, 3) := by decide +kernel
theorem dX7_count_121 : decode cX7_count 121 = .ok (.aload_n 0, 1) := by decide +kernel
theorem dX7_count_122 : decode cX7_count 122 = .ok (.getfield 16, 3) := by decide +kernel
theorem dX7_count_125 : decode cX7_count 125 = .ok (.iconst 1, 1) := by decide +kernel
theorem dX7_count_126 : decode cX7_count 126 = .ok (.baload, 1) := by decide +kernel
theorem dX7_count_127 : decode cX7_count 127 = .ok (.invokestatic 194, 3) := by decide +kernel
theorem dX7_count_130 : decode cX7_count 130 = .ok (.iadd, 1) := by decide +kernel
theorem dX7_count_131 : decode cX7_count 131 = .ok (.ireturn, 1) := by decide +kernel
theorem dX7_count_132 : decode cX7_count 132 = .ok (.aload_n 0, 1) := by decide +kernel
theorem dX7_count_133 : decode cX7_count 133 = .ok (.getfield 76, 3) := by decide +kernel
theorem dX7_count_136 : decode cX7_count 136 = .ok (.ireturn, 1) := by decide +kernel
theorem dX7_count_137 : decode cX7_count 137 = .ok (.aload_n 0, 1) := by decide +kernel
theorem dX7_count_138 : decode cX7_count 138 = .ok (.getfield 32, 3) := by decide +kernel
theorem dX7_count_141 : decode cX7_count 141 = .ok (.iconst 0, 1) := by decide +kernel
theorem dX7_count_142 : decode cX7_count 142 = .ok (.iaload, 1) := by decide +kernel
theorem dX7_count_143 : decode cX7_count 143 = .ok (.bipush (-4), 2) := by decide +kernel
theorem dX7_count_145 : decode cX7_count 145 = .ok (.if_icmp .ne 8, 3) := by decide +kernel
theorem dX7_count_148 : decode cX7_count 148 = .ok (.bipush (-4), 2) := by decide +kernel
theorem dX7_count_150 : decode cX7_count 150 = .ok (.goto 9, 3) := by decide +kernel
theorem dX7_count_153 : decode cX7_count 153 = .ok (.aload_n 0, 1) := by decide +kernel
theorem dX7_count_154 : decode cX7_count 154 = .ok (.getfield 35, 3) := by decide +kernel
theorem dX7_count_157 : decode cX7_count 157 = .ok (.iconst 0, 1) := by decide +kernel
theorem dX7_count_158 : decode cX7_count 158 = .ok (.iaload, 1) := by decide +kernel
theorem dX7_count_159 : decode cX7_count 159 = .ok (.ireturn, 1) := by decide +kernel
theorem dX7_count_160 : decode cX7_count 160 = .ok (.iload_n 2, 1) := by decide +kernel
theorem dX7_count_161 : decode cX7_count 161 = .ok (.ireturn, 1) := by decide +kernel
theorem dX7_count_162 : decode cX7_count 162 = .ok (.iload_n 3, 1) := by decide +kernel
theorem dX7_count_163 : decode cX7_count 163 = .ok (.ireturn, 1) := by decide +kernel
theorem dX7_count_164 : decode cX7_count 164 = .ok (.iconst (-1), 1) := by decide +kernel
theorem dX7_count_165 : decode cX7_count 165 = .ok (.ireturn, 1) := by decide +kernel
end
section
theorem dL_law_0 : decode cL_law 0 = .ok (.new 7, 3) := by decide +kernel
theorem dL_law_3 : decode cL_law 3 = .ok (.dup, 1) := by decide +kernel
theorem dL_law_4 : decode cL_law 4 = .ok (.invokespecial 9, 3) := by decide +kernel
theorem dL_law_7 : decode cL_law 7 = .ok (.astore_n 1, 1) := by decide +kernel
theorem dL_law_8 : decode cL_law 8 = .ok (.new 10, 3) := by decide +kernel
theorem dL_law_11 : decode cL_law 11 = .ok (.dup, 1) := by decide +kernel
theorem dL_law_12 : decode cL_law 12 = .ok (.invokespecial 12, 3) := by decide +kernel
theorem dL_law_15 : decode cL_law 15 = .ok (.astore_n 2, 1) := by decide +kernel
theorem dL_law_16 : decode cL_law 16 = .ok (.iconst 0, 1) := by decide +kernel
theorem dL_law_17 : decode cL_law 17 = .ok (.istore_n 3, 1) := by decide +kernel
theorem dL_law_18 : decode cL_law 18 = .ok (.iload_n 3, 1) := by decide +kernel
theorem dL_law_19 : decode cL_law 19 = .ok (.aload_n 0, 1) := by decide +kernel
theorem dL_law_20 : decode cL_law 20 = .ok (.arraylength, 1) := by decide +kernel
theorem dL_law_21 : decode cL_law 21 = .ok (.iconst 5, 1) := by decide +kernel
theorem dL_law_22 : decode cL_law 22 = .ok (.isub, 1) := by decide +kernel
theorem dL_law_23 : decode cL_law 23 = .ok (.if_icmp .gt 1433, 3) := by decide +kernel
theorem dL_law_26 : decode cL_law 26 = .ok (.aload_n 0, 1) := by decide +kernel
theorem dL_law_27 : decode cL_law 27 = .ok (.iload_n 3, 1) := by decide +kernel
theorem dL_law_28 : decode cL_law 28 = .ok (.iaload, 1) := by decide +kernel
theorem dL_law_29 : decode cL_law 29 = .ok (.bipush 63, 2) := by decide +kernel
theorem dL_law_31 : decode cL_law 31 = .ok (.iand, 1) := by decide +kernel
theorem dL_law_32 : decode cL_law 32 = .ok (.tableswitch 1418 0 39 #[176, 199, 222, 235, 248, 271, 304, 337, 360, 403, 436, 459, 482, 505, 528, 551, 584, 627, 650, 693, 726, 759, 792, 825, 868, 911, 965, 1009, 1052, 1075, 1098, 1121, 1154, 1197, 1220, 1243, 1286, 1329, 1382, 1395], 176) := by decide +kernel
theorem dL_law_208 : decode cL_law 208 = .ok (.aload_n 1, 1) := by decide +kernel
theorem dL_law_209 : decode cL_law 209 = .ok (.aload_n 0, 1) := by decide +kernel
theorem dL_law_210 : decode cL_law 210 = .ok (.iload_n 3, 1) := by decide +kernel
theorem dL_law_211 : decode cL_law 211 = .ok (.iconst 1, 1) := by decide +kernel
theorem dL_law_212 : decode cL_law 212 = .ok (.iadd, 1) := by decide +kernel
theorem dL_law_213 : decode cL_law 213 = .ok (.iaload, 1) := by decide +kernel
theorem dL_law_214 : decode cL_law 214 = .ok (.invokevirtual 13, 3) := by decide +kernel
theorem dL_law_217 : decode cL_law 217 = .ok (.aload_n 2, 1) := by decide +kernel
theorem dL_law_218 : decode cL_law 218 = .ok (.aload_n 0, 1) := by decide +kernel
theorem dL_law_219 : decode cL_law 219 = .ok (.iload_n 3, 1) := by decide +kernel
theorem dL_law_220 : decode cL_law 220 = .ok (.iconst 1, 1) := by decide +kernel
theorem dL_law_221 : decode cL_law 221 = .ok (.iadd, 1) := by decide +kernel
theorem dL_law_222 : decode cL_law 222 = .ok (.iaload, 1) := by decide +kernel
theorem dL_law_223 : decode cL_law 223 = .ok (.invokevirtual 17, 3) := by decide +kernel
theorem dL_law_226 : decode cL_law 226 = .ok (.if_icmp .eq 1224, 3) := by decide +kernel
theorem dL_law_229 : decode cL_law 229 = .ok (.iconst 0, 1) := by decide +kernel
theorem dL_law_230 : decode cL_law 230 = .ok (.ireturn, 1) := by decide +kernel
theorem dL_law_231 : decode cL_law 231 = .ok (.aload_n 1, 1) := by decide +kernel
theorem dL_law_232 : decode cL_law 232 = .ok (.aload_n 0, 1) := by decide +kernel
theorem dL_law_233 : decode cL_law 233 = .ok (.iload_n 3, 1) := by decide +kernel
theorem dL_law_234 : decode cL_law 234 = .ok (.iconst 1, 1) := by decide +kernel
theorem dL_law_235 : decode cL_law 235 = .ok (.iadd, 1) := by decide +kernel
theorem dL_law_236 : decode cL_law 236 = .ok (.iaload, 1) := by decide +kernel
theorem dL_law_237 : decode cL_law 237 = .ok (.invokevirtual 18, 3) := by decide +kernel
theorem dL_law_240 : decode cL_law 240 = .ok (.aload_n 2, 1) := by decide +kernel
theorem dL_law_241 : decode cL_law 241 = .ok (.aload_n 0, 1) := by decide +kernel
theorem dL_law_242 : decode cL_law 242 = .ok (.iload_n 3, 1) := by decide +kernel
theorem dL_law_243 : decode cL_law 243 = .ok (.iconst 1, 1) := by decide +kernel
theorem dL_law_244 : decode cL_law 244 = .ok (.iadd, 1) := by decide +kernel
theorem dL_law_245 : decode cL_law 245 = .ok (.iaload, 1) := by decide +kernel
theorem dL_law_246 : decode cL_law 246 = .ok (.invokevirtual 21, 3) := by decide +kernel
theorem dL_law_249 : decode cL_law 249 = .ok (.if_icmp .eq 1201, 3) := by decide +kernel
theorem dL_law_252 : decode cL_law 252 = .ok (.iconst 0, 1) := by decide +kernel
theorem dL_law_253 : decode cL_law 253 = .ok (.ireturn, 1) := by decide +kernel
theorem dL_law_254 : decode cL_law 254 = .ok (.aload_n 1, 1) := by decide +kernel
theorem dL_law_255 : decode cL_law 255 = .ok (.invokevirtual 22, 3) := by decide +kernel
theorem dL_law_258 : decode cL_law 258 = .ok (.aload_n 2, 1) := by decide +kernel
theorem dL_law_259 : decode cL_law 259 = .ok (.invokevirtual 26, 3) := by decide +kernel
theorem dL_law_262 : decode cL_law 262 = .ok (.if_icmp .eq 1188, 3) := by decide +kernel
theorem dL_law_265 : decode cL_law 265 = .ok (.iconst 0, 1) := by decide +kernel
theorem dL_law_266 : decode cL_law 266 = .ok (.ireturn, 1) := by decide +kernel
theorem dL_law_267 : decode cL_law 267 = .ok (.aload_n 1, 1) := by decide +kernel
theorem dL_law_268 : decode cL_law 268 = .ok (.invokevirtual 27, 3) := by decide +kernel
theorem dL_law_271 : decode cL_law 271 = .ok (.aload_n 2, 1) := by decide +kernel
theorem dL_law_272 : decode cL_law 272 = .ok (.invokevirtual 30, 3) := by decide +kernel
theorem dL_law_275 : decode cL_law 275 = .ok (.if_icmp .eq 1175, 3) := by decide +kernel
theorem dL_law_278 : decode cL_law 278 = .ok (.iconst 0, 1) := by decide +kernel
theorem dL_law_279 : decode cL_law 279 = .ok (.ireturn, 1) := by decide +kernel
theorem dL_law_280 : decode cL_law 280 = .ok (.aload_n 1, 1) := by decide +kernel
theorem dL_law_281 : decode cL_law 281 = .ok (.aload_n 0, 1) := by decide +kernel
theorem dL_law_282 : decode cL_law 282 = .ok (.iload_n 3, 1) := by decide +kernel
theorem dL_law_283 : decode cL_law 283 = .ok (.iconst 1, 1) := by decide +kernel
theorem dL_law_284 : decode cL_law 284 = .ok (.iadd, 1) := by decide +kernel
theorem dL_law_285 : decode cL_law 285 = .ok (.iaload, 1) := by decide +kernel
theorem dL_law_286 : decode cL_law 286 = .ok (.invokevirtual 31, 3) := by decide +kernel
theorem dL_law_289 : decode cL_law 289 = .ok (.aload_n 2, 1) := by decide +kernel
theorem dL_law_290 : decode cL_law 290 = .ok (.aload_n 0, 1) := by decide +kernel
theorem dL_law_291 : decode cL_law 291 = .ok (.iload_n 3, 1) := by decide +kernel
theorem dL_law_292 : decode cL_law 292 = .ok (.iconst 1, 1) := by decide +kernel
theorem dL_law_293 : decode cL_law 293 = .ok (.iadd, 1) := by decide +kernel
theorem dL_law_294 : decode cL_law 294 = .ok (.iaload, 1) := by decide +kernel
theorem dL_law_295 : decode cL_law 295 = .ok (.invokevirtual 34, 3) := by decide +kernel
theorem dL_law_298 : decode cL_law 298 = .ok (.if_icmp .eq 1152, 3) := by decide +kernel
theorem dL_law_301 : decode cL_law 301 = .ok (.iconst 0, 1) := by decide +kernel
theorem dL_law_302 : decode cL_law 302 = .ok (.ireturn, 1) := by decide +kernel
theorem dL_law_303 : decode cL_law 303 = .ok (.aload_n 1, 1) := by decide +kernel
theorem dL_law_304 : decode cL_law 304 = .ok (.aload_n 0, 1) := by decide +kernel
theorem dL_law_305 : decode cL_law 305 = .ok (.iload_n 3, 1) := by decide +kernel
theorem dL_law_306 : decode cL_law 306 = .ok (.iconst 1, 1) := by decide +kernel
theorem dL_law_307 : decode cL_law 307 = .ok (.iadd, 1) := by decide +kernel
theorem dL_law_308 : decode cL_law 308 = .ok (.iaload, 1) := by decide +kernel
theorem dL_law_309 : decode cL_law 309 = .ok (.aload_n 0, 1) := by decide +kernel
theorem dL_law_310 : decode cL_law 310 = .ok (.iload_n 3, 1) := by decide +kernel
theorem dL_law_311 : decode cL_law 311 = .ok (.iconst 2, 1) := by decide +kernel
theorem dL_law_312 : decode cL_law 312 = .ok (.iadd, 1) := by decide +kernel
theorem dL_law_313 : decode cL_law 313 = .ok (.iaload, 1) := by decide +kernel
theorem dL_law_314 : decode cL_law 314 = .ok (.invokevirtual 35, 3) := by decide +kernel
theorem dL_law_317 : decode cL_law 317 = .ok (.aload_n 2, 1) := by decide +kernel
theorem dL_law_318 : decode cL_law 318 = .ok (.aload_n 0, 1) := by decide +kernel
theorem dL_law_319 : decode cL_law 319 = .ok (.iload_n 3, 1) := by decide +kernel
theorem dL_law_320 : decode cL_law 320 = .ok (.iconst 1, 1) := by decide +kernel
theorem dL_law_321 : decode cL_law 321 = .ok (.iadd, 1) := by decide +kernel
theorem dL_law_322 : decode cL_law 322 = .ok (.iaload, 1) := by decide +kernel
theorem dL_law_323 : decode cL_law 323 = .ok (.aload_n 0, 1) := by decide +kernel
theorem dL_law_324 : decode cL_law 324 = .ok (.iload_n 3, 1) := by decide +kernel
theorem dL_law_325 : decode cL_law 325 = .ok (.iconst 2, 1) := by decide +kernel
theorem dL_law_326 : decode cL_law 326 = .ok (.iadd, 1) := by decide +kernel
theorem dL_law_327 : decode cL_law 327 = .ok (.iaload, 1) := by decide +kernel
theorem dL_law_328 : decode cL_law 328 = .ok (.invokevirtual 39, 3) := by decide +kernel
theorem dL_law_331 : decode cL_law 331 = .ok (.if_icmp .eq 1119, 3) := by decide +kernel
theorem dL_law_334 : decode cL_law 334 = .ok (.iconst 0, 1) := by decide +kernel
theorem dL_law_335 : decode cL_law 335 = .ok (.ireturn, 1) := by decide +kernel
theorem dL_law_336 : decode cL_law 336 = .ok (.aload_n 1, 1) := by decide +kernel
theorem dL_law_337 : decode cL_law 337 = .ok (.aload_n 0, 1) := by decide +kernel
theorem dL_law_338 : decode cL_law 338 = .ok (.iload_n 3, 1) := by decide +kernel
theorem dL_law_339 : decode cL_law 339 = .ok (.iconst 1, 1) := by decide +kernel
theorem dL_law_340 : decode cL_law 340 = .ok (.iadd, 1) := by decide +kernel
theorem dL_law_341 : decode cL_law 341 = .ok (.iaload, 1) := by decide +kernel
theorem dL_law_342 : decode cL_law 342 = .ok (.aload_n 0, 1) := by decide +kernel
theorem dL_law_343 : decode cL_law 343 = .ok (.iload_n 3, 1) := by decide +kernel
theorem dL_law_344 : decode cL_law 344 = .ok (.iconst 2, 1) := by decide +kernel
theorem dL_law_345 : decode cL_law 345 = .ok (.iadd, 1) := by decide +kernel
theorem dL_law_346 : decode cL_law 346 = .ok (.iaload, 1) := by decide +kernel
theorem dL_law_347 : decode cL_law 347 = .ok (.invokevirtual 40, 3) := by decide +kernel
theorem dL_law_350 : decode cL_law 350 = .ok (.aload_n 2, 1) := by decide +kernel
theorem dL_law_351 : decode cL_law 351 = .ok (.aload_n 0, 1) := by decide +kernel
theorem dL_law_352 : decode cL_law 352 = .ok (.iload_n 3, 1) := by decide +kernel
theorem dL_law_353 : decode cL_law 353 = .ok (.iconst 1, 1) := by decide +kernel
theorem dL_law_354 : decode cL_law 354 = .ok (.iadd, 1) := by decide +kernel
theorem dL_law_355 : decode cL_law 355 = .ok (.iaload, 1) := by decide +kernel
theorem dL_law_356 : decode cL_law 356 = .ok (.aload_n 0, 1) := by decide +kernel
theorem dL_law_357 : decode cL_law 357 = .ok (.iload_n 3, 1) := by decide +kernel
theorem dL_law_358 : decode cL_law 358 = .ok (.iconst 2, 1) := by decide +kernel
theorem dL_law_359 : decode cL_law 359 = .ok (.iadd, 1) := by decide +kernel
theorem dL_law_360 : decode cL_law 360 = .ok (.iaload, 1) := by decide +kernel
theorem dL_law_361 : decode cL_law 361 = .ok (.invokevirtual 43, 3) := by decide +kernel
theorem dL_law_364 : decode cL_law 364 = .ok (.if_icmp .eq 1086, 3) := by decide +kernel
theorem dL_law_367 : decode cL_law 367 = .ok (.iconst 0, 1) := by decide +kernel
theorem dL_law_368 : decode cL_law 368 = .ok (.ireturn, 1) := by decide +kernel
theorem dL_law_369 : decode cL_law 369 = .ok (.aload_n 1, 1) := by decide +kernel
theorem dL_law_370 : decode cL_law 370 = .ok (.aload_n 0, 1) := by decide +kernel
theorem dL_law_371 : decode cL_law 371 = .ok (.iload_n 3, 1) := by decide +kernel
theorem dL_law_372 : decode cL_law 372 = .ok (.iconst 1, 1) := by decide +kernel
theorem dL_law_373 : decode cL_law 373 = .ok (.iadd, 1) := by decide +kernel
theorem dL_law_374 : decode cL_law 374 = .ok (.iaload, 1) := by decide +kernel
theorem dL_law_375 : decode cL_law 375 = .ok (.invokevirtual 44, 3) := by decide +kernel
theorem dL_law_378 : decode cL_law 378 = .ok (.aload_n 2, 1) := by decide +kernel
theorem dL_law_379 : decode cL_law 379 = .ok (.aload_n 0, 1) := by decide +kernel
theorem dL_law_380 : decode cL_law 380 = .ok (.iload_n 3, 1) := by decide +kernel
theorem dL_law_381 : decode cL_law 381 = .ok (.iconst 1, 1) := by decide +kernel
theorem dL_law_382 : decode cL_law 382 = .ok (.iadd, 1) := by decide +kernel
theorem dL_law_383 : decode cL_law 383 = .ok (.iaload, 1) := by decide +kernel
theorem dL_law_384 : decode cL_law 384 = .ok (.invokevirtual 47, 3) := by decide +kernel
theorem dL_law_387 : decode cL_law 387 = .ok (.if_icmp .eq 1063, 3) := by decide +kernel
theorem dL_law_390 : decode cL_law 390 = .ok (.iconst 0, 1) := by decide +kernel
theorem dL_law_391 : decode cL_law 391 = .ok (.ireturn, 1) := by decide +kernel
theorem dL_law_392 : decode cL_law 392 = .ok (.aload_n 1, 1) := by decide +kernel
theorem dL_law_393 : decode cL_law 393 = .ok (.aload_n 0, 1) := by decide +kernel
theorem dL_law_394 : decode cL_law 394 = .ok (.iload_n 3, 1) := by decide +kernel
theorem dL_law_395 : decode cL_law 395 = .ok (.iconst 1, 1) := by decide +kernel
theorem dL_law_396 : decode cL_law 396 = .ok (.iadd, 1) := by decide +kernel
theorem dL_law_397 : decode cL_law 397 = .ok (.iaload, 1) := by decide +kernel
theorem dL_law_398 : decode cL_law 398 = .ok (.aload_n 0, 1) := by decide +kernel
theorem dL_law_399 : decode cL_law 399 = .ok (.iload_n 3, 1) := by decide +kernel
theorem dL_law_400 : decode cL_law 400 = .ok (.iconst 2, 1) := by decide +kernel
theorem dL_law_401 : decode cL_law 401 = .ok (.iadd, 1) := by decide +kernel
theorem dL_law_402 : decode cL_law 402 = .ok (.iaload, 1) := by decide +kernel
theorem dL_law_403 : decode cL_law 403 = .ok (.aload_n 0, 1) := by decide +kernel
theorem dL_law_404 : decode cL_law 404 = .ok (.iload_n 3, 1) := by decide +kernel
theorem dL_law_405 : decode cL_law 405 = .ok (.iconst 3, 1) := by decide +kernel
theorem dL_law_406 : decode cL_law 406 = .ok (.iadd, 1) := by decide +kernel
theorem dL_law_407 : decode cL_law 407 = .ok (.iaload, 1) := by decide +kernel
theorem dL_law_408 : decode cL_law 408 = .ok (.invokevirtual 48, 3) := by decide +kernel
theorem dL_law_411 : decode cL_law 411 = .ok (.aload_n 2, 1) := by decide +kernel
theorem dL_law_412 : decode cL_law 412 = .ok (.aload_n 0, 1) := by decide +kernel
theorem dL_law_413 : decode cL_law 413 = .ok (.iload_n 3, 1) := by decide +kernel
theorem dL_law_414 : decode cL_law 414 = .ok (.iconst 1, 1) := by decide +kernel
theorem dL_law_415 : decode cL_law 415 = .ok (.iadd, 1) := by decide +kernel
theorem dL_law_416 : decode cL_law 416 = .ok (.iaload, 1) := by decide +kernel
theorem dL_law_417 : decode cL_law 417 = .ok (.aload_n 0, 1) := by decide +kernel
theorem dL_law_418 : decode cL_law 418 = .ok (.iload_n 3, 1) := by decide +kernel
theorem dL_law_419 : decode cL_law 419 = .ok (.iconst 2, 1) := by decide +kernel
theorem dL_law_420 : decode cL_law 420 = .ok (.iadd, 1) := by decide +kernel
theorem dL_law_421 : decode cL_law 421 = .ok (.iaload, 1) := by decide +kernel
theorem dL_law_422 : decode cL_law 422 = .ok (.aload_n 0, 1) := by decide +kernel
theorem dL_law_423 : decode cL_law 423 = .ok (.iload_n 3, 1) := by decide +kernel
theorem dL_law_424 : decode cL_law 424 = .ok (.iconst 3, 1) := by decide +kernel
theorem dL_law_425 : decode cL_law 425 = .ok (.iadd, 1) := by decide +kernel
theorem dL_law_426 : decode cL_law 426 = .ok (.iaload, 1) := by decide +kernel
theorem dL_law_427 : decode cL_law 427 = .ok (.invokevirtual 52, 3) := by decide +kernel
theorem dL_law_430 : decode cL_law 430 = .ok (.if_icmp .eq 1020, 3) := by decide +kernel
theorem dL_law_433 : decode cL_law 433 = .ok (.iconst 0, 1) := by decide +kernel
theorem dL_law_434 : decode cL_law 434 = .ok (.ireturn, 1) := by decide +kernel
theorem dL_law_435 : decode cL_law 435 = .ok (.aload_n 1, 1) := by decide +kernel
theorem dL_law_436 : decode cL_law 436 = .ok (.aload_n 0, 1) := by decide +kernel
theorem dL_law_437 : decode cL_law 437 = .ok (.iload_n 3, 1) := by decide +kernel
theorem dL_law_438 : decode cL_law 438 = .ok (.iconst 1, 1) := by decide +kernel
theorem dL_law_439 : decode cL_law 439 = .ok (.iadd, 1) := by decide +kernel
theorem dL_law_440 : decode cL_law 440 = .ok (.iaload, 1) := by decide +kernel
theorem dL_law_441 : decode cL_law 441 = .ok (.aload_n 0, 1) := by decide +kernel
theorem dL_law_442 : decode cL_law 442 = .ok (.iload_n 3, 1) := by decide +kernel
theorem dL_law_443 : decode cL_law 443 = .ok (.iconst 2, 1) := by decide +kernel
theorem dL_law_444 : decode cL_law 444 = .ok (.iadd, 1) := by decide +kernel
theorem dL_law_445 : decode cL_law 445 = .ok (.iaload, 1) := by decide +kernel
theorem dL_law_446 : decode cL_law 446 = .ok (.invokevirtual 53, 3) := by decide +kernel
theorem dL_law_449 : decode cL_law 449 = .ok (.aload_n 2, 1) := by decide +kernel
theorem dL_law_450 : decode cL_law 450 = .ok (.aload_n 0, 1) := by decide +kernel
theorem dL_law_451 : decode cL_law 451 = .ok (.iload_n 3, 1) := by decide +kernel
theorem dL_law_452 : decode cL_law 452 = .ok (.iconst 1, 1) := by decide +kernel
theorem dL_law_453 : decode cL_law 453 = .ok (.iadd, 1) := by decide +kernel
theorem dL_law_454 : decode cL_law 454 = .ok (.iaload, 1) := by decide +kernel
theorem dL_law_455 : decode cL_law 455 = .ok (.aload_n 0, 1) := by decide +kernel
theorem dL_law_456 : decode cL_law 456 = .ok (.iload_n 3, 1) := by decide +kernel
theorem dL_law_457 : decode cL_law 457 = .ok (.iconst 2, 1) := by decide +kernel
theorem dL_law_458 : decode cL_law 458 = .ok (.iadd, 1) := by decide +kernel
theorem dL_law_459 : decode cL_law 459 = .ok (.iaload, 1) := by decide +kernel
theorem dL_law_460 : decode cL_law 460 = .ok (.invokevirtual 56, 3) := by decide +kernel
theorem dL_law_463 : decode cL_law 463 = .ok (.if_icmp .eq 987, 3) := by decide +kernel
theorem dL_law_466 : decode cL_law 466 = .ok (.iconst 0, 1) := by decide +kernel
theorem dL_law_467 : decode cL_law 467 = .ok (.ireturn, 1) := by decide +kernel
theorem dL_law_468 : decode cL_law 468 = .ok (.aload_n 1, 1) := by decide +kernel
theorem dL_law_469 : decode cL_law 469 = .ok (.aload_n 0, 1) := by decide +kernel
theorem dL_law_470 : decode cL_law 470 = .ok (.iload_n 3, 1) := by decide +kernel
theorem dL_law_471 : decode cL_law 471 = .ok (.iconst 1, 1) := by decide +kernel
theorem dL_law_472 : decode cL_law 472 = .ok (.iadd, 1) := by decide +kernel
theorem dL_law_473 : decode cL_law 473 = .ok (.iaload, 1) := by decide +kernel
theorem dL_law_474 : decode cL_law 474 = .ok (.invokevirtual 57, 3) := by decide +kernel
theorem dL_law_477 : decode cL_law 477 = .ok (.aload_n 2, 1) := by decide +kernel
theorem dL_law_478 : decode cL_law 478 = .ok (.aload_n 0, 1) := by decide +kernel
theorem dL_law_479 : decode cL_law 479 = .ok (.iload_n 3, 1) := by decide +kernel
theorem dL_law_480 : decode cL_law 480 = .ok (.iconst 1, 1) := by decide +kernel
theorem dL_law_481 : decode cL_law 481 = .ok (.iadd, 1) := by decide +kernel
theorem dL_law_482 : decode cL_law 482 = .ok (.iaload, 1) := by decide +kernel
theorem dL_law_483 : decode cL_law 483 = .ok (.invokevirtual 60, 3) := by decide +kernel
theorem dL_law_486 : decode cL_law 486 = .ok (.if_icmp .eq 964, 3) := by decide +kernel
theorem dL_law_489 : decode cL_law 489 = .ok (.iconst 0, 1) := by decide +kernel
theorem dL_law_490 : decode cL_law 490 = .ok (.ireturn, 1) := by decide +kernel
theorem dL_law_491 : decode cL_law 491 = .ok (.aload_n 1, 1) := by decide +kernel
theorem dL_law_492 : decode cL_law 492 = .ok (.aload_n 0, 1) := by decide +kernel
theorem dL_law_493 : decode cL_law 493 = .ok (.iload_n 3, 1) := by decide +kernel
theorem dL_law_494 : decode cL_law 494 = .ok (.iconst 1, 1) := by decide +kernel
theorem dL_law_495 : decode cL_law 495 = .ok (.iadd, 1) := by decide +kernel
theorem dL_law_496 : decode cL_law 496 = .ok (.iaload, 1) := by decide +kernel
theorem dL_law_497 : decode cL_law 497 = .ok (.invokevirtual 61, 3) := by decide +kernel
theorem dL_law_500 : decode cL_law 500 = .ok (.aload_n 2, 1) := by decide +kernel
theorem dL_law_501 : decode cL_law 501 = .ok (.aload_n 0, 1) := by decide +kernel
theorem dL_law_502 : decode cL_law 502 = .ok (.iload_n 3, 1) := by decide +kernel
theorem dL_law_503 : decode cL_law 503 = .ok (.iconst 1, 1) := by decide +kernel
theorem dL_law_504 : decode cL_law 504 = .ok (.iadd, 1) := by decide +kernel
theorem dL_law_505 : decode cL_law 505 = .ok (.iaload, 1) := by decide +kernel
theorem dL_law_506 : decode cL_law 506 = .ok (.invokevirtual 64, 3) := by decide +kernel
theorem dL_law_509 : decode cL_law 509 = .ok (.if_icmp .eq 941, 3) := by decide +kernel
theorem dL_law_512 : decode cL_law 512 = .ok (.iconst 0, 1) := by decide +kernel
theorem dL_law_513 : decode cL_law 513 = .ok (.ireturn, 1) := by decide +kernel
theorem dL_law_514 : decode cL_law 514 = .ok (.aload_n 1, 1) := by decide +kernel
theorem dL_law_515 : decode cL_law 515 = .ok (.aload_n 0, 1) := by decide +kernel
theorem dL_law_516 : decode cL_law 516 = .ok (.iload_n 3, 1) := by decide +kernel
theorem dL_law_517 : decode cL_law 517 = .ok (.iconst 1, 1) := by decide +kernel
theorem dL_law_518 : decode cL_law 518 = .ok (.iadd, 1) := by decide +kernel
theorem dL_law_519 : decode cL_law 519 = .ok (.iaload, 1) := by decide +kernel
theorem dL_law_520 : decode cL_law 520 = .ok (.invokevirtual 65, 3) := by decide +kernel
theorem dL_law_523 : decode cL_law 523 = .ok (.aload_n 2, 1) := by decide +kernel
theorem dL_law_524 : decode cL_law 524 = .ok (.aload_n 0, 1) := by decide +kernel
theorem dL_law_525 : decode cL_law 525 = .ok (.iload_n 3, 1) := by decide +kernel
theorem dL_law_526 : decode cL_law 526 = .ok (.iconst 1, 1) := by decide +kernel
theorem dL_law_527 : decode cL_law 527 = .ok (.iadd, 1) := by decide +kernel
theorem dL_law_528 : decode cL_law 528 = .ok (.iaload, 1) := by decide +kernel
theorem dL_law_529 : decode cL_law 529 = .ok (.invokevirtual 68, 3) := by decide +kernel
theorem dL_law_532 : decode cL_law 532 = .ok (.if_icmp .eq 918, 3) := by decide +kernel
theorem dL_law_535 : decode cL_law 535 = .ok (.iconst 0, 1) := by decide +kernel
theorem dL_law_536 : decode cL_law 536 = .ok (.ireturn, 1) := by decide +kernel
theorem dL_law_537 : decode cL_law 537 = .ok (.aload_n 1, 1) := by decide +kernel
theorem dL_law_538 : decode cL_law 538 = .ok (.aload_n 0, 1) := by decide +kernel
theorem dL_law_539 : decode cL_law 539 = .ok (.iload_n 3, 1) := by decide +kernel
theorem dL_law_540 : decode cL_law 540 = .ok (.iconst 1, 1) := by decide +kernel
theorem dL_law_541 : decode cL_law 541 = .ok (.iadd, 1) := by decide +kernel
theorem dL_law_542 : decode cL_law 542 = .ok (.iaload, 1) := by decide +kernel
theorem dL_law_543 : decode cL_law 543 = .ok (.invokevirtual 69, 3) := by decide +kernel
theorem dL_law_546 : decode cL_law 546 = .ok (.aload_n 2, 1) := by decide +kernel
theorem dL_law_547 : decode cL_law 547 = .ok (.aload_n 0, 1) := by decide +kernel
theorem dL_law_548 : decode cL_law 548 = .ok (.iload_n 3, 1) := by decide +kernel
theorem dL_law_549 : decode cL_law 549 = .ok (.iconst 1, 1) := by decide +kernel
theorem dL_law_550 : decode cL_law 550 = .ok (.iadd, 1) := by decide +kernel
theorem dL_law_551 : decode cL_law 551 = .ok (.iaload, 1) := by decide +kernel
theorem dL_law_552 : decode cL_law 552 = .ok (.invokevirtual 72, 3) := by decide +kernel
theorem dL_law_555 : decode cL_law 555 = .ok (.if_icmp .eq 895, 3) := by decide +kernel
theorem dL_law_558 : decode cL_law 558 = .ok (.iconst 0, 1) := by decide +kernel
theorem dL_law_559 : decode cL_law 559 = .ok (.ireturn, 1) := by decide +kernel
theorem dL_law_560 : decode cL_law 560 = .ok (.aload_n 1, 1) := by decide +kernel
theorem dL_law_561 : decode cL_law 561 = .ok (.aload_n 0, 1) := by decide +kernel
theorem dL_law_562 : decode cL_law 562 = .ok (.iload_n 3, 1) := by decide +kernel
theorem dL_law_563 : decode cL_law 563 = .ok (.iconst 1, 1) := by decide +kernel
theorem dL_law_564 : decode cL_law 564 = .ok (.iadd, 1) := by decide +kernel
theorem dL_law_565 : decode cL_law 565 = .ok (.iaload, 1) := by decide +kernel
theorem dL_law_566 : decode cL_law 566 = .ok (.invokevirtual 73, 3) := by decide +kernel
theorem dL_law_569 : decode cL_law 569 = .ok (.aload_n 2, 1) := by decide +kernel
theorem dL_law_570 : decode cL_law 570 = .ok (.aload_n 0, 1) := by decide +kernel
theorem dL_law_571 : decode cL_law 571 = .ok (.iload_n 3, 1) := by decide +kernel
theorem dL_law_572 : decode cL_law 572 = .ok (.iconst 1, 1) := by decide +kernel
theorem dL_law_573 : decode cL_law 573 = .ok (.iadd, 1) := by decide +kernel
theorem dL_law_574 : decode cL_law 574 = .ok (.iaload, 1) := by decide +kernel
theorem dL_law_575 : decode cL_law 575 = .ok (.invokevirtual 76, 3) := by decide +kernel
theorem dL_law_578 : decode cL_law 578 = .ok (.if_icmp .eq 872, 3) := by decide +kernel
theorem dL_law_581 : decode cL_law 581 = .ok (.iconst 0, 1) := by decide +kernel
theorem dL_law_582 : decode cL_law 582 = .ok (.ireturn, 1) := by decide +kernel
theorem dL_law_583 : decode cL_law 583 = .ok (.aload_n 1, 1) := by decide +kernel
theorem dL_law_584 : decode cL_law 584 = .ok (.aload_n 0, 1) := by decide +kernel
theorem dL_law_585 : decode cL_law 585 = .ok (.iload_n 3, 1) := by decide +kernel
theorem dL_law_586 : decode cL_law 586 = .ok (.iconst 1, 1) := by decide +kernel
theorem dL_law_587 : decode cL_law 587 = .ok (.iadd, 1) := by decide +kernel
theorem dL_law_588 : decode cL_law 588 = .ok (.iaload, 1) := by decide +kernel
theorem dL_law_589 : decode cL_law 589 = .ok (.aload_n 0, 1) := by decide +kernel
theorem dL_law_590 : decode cL_law 590 = .ok (.iload_n 3, 1) := by decide +kernel
theorem dL_law_591 : decode cL_law 591 = .ok (.iconst 2, 1) := by decide +kernel
theorem dL_law_592 : decode cL_law 592 = .ok (.iadd, 1) := by decide +kernel
theorem dL_law_593 : decode cL_law 593 = .ok (.iaload, 1) := by decide +kernel
theorem dL_law_594 : decode cL_law 594 = .ok (.invokevirtual 77, 3) := by decide +kernel
theorem dL_law_597 : decode cL_law 597 = .ok (.aload_n 2, 1) := by decide +kernel
theorem dL_law_598 : decode cL_law 598 = .ok (.aload_n 0, 1) := by decide +kernel
theorem dL_law_599 : decode cL_law 599 = .ok (.iload_n 3, 1) := by decide +kernel
theorem dL_law_600 : decode cL_law 600 = .ok (.iconst 1, 1) := by decide +kernel
theorem dL_law_601 : decode cL_law 601 = .ok (.iadd, 1) := by decide +kernel
theorem dL_law_602 : decode cL_law 602 = .ok (.iaload, 1) := by decide +kernel
theorem dL_law_603 : decode cL_law 603 = .ok (.aload_n 0, 1) := by decide +kernel
theorem dL_law_604 : decode cL_law 604 = .ok (.iload_n 3, 1) := by decide +kernel
theorem dL_law_605 : decode cL_law 605 = .ok (.iconst 2, 1) := by decide +kernel
theorem dL_law_606 : decode cL_law 606 = .ok (.iadd, 1) := by decide +kernel
theorem dL_law_607 : decode cL_law 607 = .ok (.iaload, 1) := by decide +kernel
theorem dL_law_608 : decode cL_law 608 = .ok (.invokevirtual 80, 3) := by decide +kernel
theorem dL_law_611 : decode cL_law 611 = .ok (.if_icmp .eq 839, 3) := by decide +kernel
theorem dL_law_614 : decode cL_law 614 = .ok (.iconst 0, 1) := by decide +kernel
theorem dL_law_615 : decode cL_law 615 = .ok (.ireturn, 1) := by decide +kernel
theorem dL_law_616 : decode cL_law 616 = .ok (.aload_n 1, 1) := by decide +kernel
theorem dL_law_617 : decode cL_law 617 = .ok (.aload_n 0, 1) := by decide +kernel
theorem dL_law_618 : decode cL_law 618 = .ok (.iload_n 3, 1) := by decide +kernel
theorem dL_law_619 : decode cL_law 619 = .ok (.iconst 1, 1) := by decide +kernel
theorem dL_law_620 : decode cL_law 620 = .ok (.iadd, 1) := by decide +kernel
theorem dL_law_621 : decode cL_law 621 = .ok (.iaload, 1) := by decide +kernel
theorem dL_law_622 : decode cL_law 622 = .ok (.aload_n 0, 1) := by decide +kernel
theorem dL_law_623 : decode cL_law 623 = .ok (.iload_n 3, 1) := by decide +kernel
theorem dL_law_624 : decode cL_law 624 = .ok (.iconst 2, 1) := by decide +kernel
theorem dL_law_625 : decode cL_law 625 = .ok (.iadd, 1) := by decide +kernel
theorem dL_law_626 : decode cL_law 626 = .ok (.iaload, 1) := by decide +kernel
theorem dL_law_627 : decode cL_law 627 = .ok (.aload_n 0, 1) := by decide +kernel
theorem dL_law_628 : decode cL_law 628 = .ok (.iload_n 3, 1) := by decide +kernel
theorem dL_law_629 : decode cL_law 629 = .ok (.iconst 3, 1) := by decide +kernel
theorem dL_law_630 : decode cL_law 630 = .ok (.iadd, 1) := by decide +kernel
theorem dL_law_631 : decode cL_law 631 = .ok (.iaload, 1) := by decide +kernel
theorem dL_law_632 : decode cL_law 632 = .ok (.invokevirtual 81, 3) := by decide +kernel
theorem dL_law_635 : decode cL_law 635 = .ok (.aload_n 2, 1) := by decide +kernel
theorem dL_law_636 : decode cL_law 636 = .ok (.aload_n 0, 1) := by decide +kernel
theorem dL_law_637 : decode cL_law 637 = .ok (.iload_n 3, 1) := by decide +kernel
theorem dL_law_638 : decode cL_law 638 = .ok (.iconst 1, 1) := by decide +kernel
theorem dL_law_639 : decode cL_law 639 = .ok (.iadd, 1) := by decide +kernel
theorem dL_law_640 : decode cL_law 640 = .ok (.iaload, 1) := by decide +kernel
theorem dL_law_641 : decode cL_law 641 = .ok (.aload_n 0, 1) := by decide +kernel
theorem dL_law_642 : decode cL_law 642 = .ok (.iload_n 3, 1) := by decide +kernel
theorem dL_law_643 : decode cL_law 643 = .ok (.iconst 2, 1) := by decide +kernel
theorem dL_law_644 : decode cL_law 644 = .ok (.iadd, 1) := by decide +kernel
theorem dL_law_645 : decode cL_law 645 = .ok (.iaload, 1) := by decide +kernel
theorem dL_law_646 : decode cL_law 646 = .ok (.aload_n 0, 1) := by decide +kernel
theorem dL_law_647 : decode cL_law 647 = .ok (.iload_n 3, 1) := by decide +kernel
theorem dL_law_648 : decode cL_law 648 = .ok (.iconst 3, 1) := by decide +kernel
theorem dL_law_649 : decode cL_law 649 = .ok (.iadd, 1) := by decide +kernel
theorem dL_law_650 : decode cL_law 650 = .ok (.iaload, 1) := by decide +kernel
theorem dL_law_651 : decode cL_law 651 = .ok (.invokevirtual 84, 3) := by decide +kernel
theorem dL_law_654 : decode cL_law 654 = .ok (.if_icmp .eq 796, 3) := by decide +kernel
theorem dL_law_657 : decode cL_law 657 = .ok (.iconst 0, 1) := by decide +kernel
theorem dL_law_658 : decode cL_law 658 = .ok (.ireturn, 1) := by decide +kernel
theorem dL_law_659 : decode cL_law 659 = .ok (.aload_n 1, 1) := by decide +kernel
theorem dL_law_660 : decode cL_law 660 = .ok (.aload_n 0, 1) := by decide +kernel
theorem dL_law_661 : decode cL_law 661 = .ok (.iload_n 3, 1) := by decide +kernel
theorem dL_law_662 : decode cL_law 662 = .ok (.iconst 1, 1) := by decide +kernel
theorem dL_law_663 : decode cL_law 663 = .ok (.iadd, 1) := by decide +kernel
theorem dL_law_664 : decode cL_law 664 = .ok (.iaload, 1) := by decide +kernel
theorem dL_law_665 : decode cL_law 665 = .ok (.invokevirtual 85, 3) := by decide +kernel
theorem dL_law_668 : decode cL_law 668 = .ok (.aload_n 2, 1) := by decide +kernel
theorem dL_law_669 : decode cL_law 669 = .ok (.aload_n 0, 1) := by decide +kernel
theorem dL_law_670 : decode cL_law 670 = .ok (.iload_n 3, 1) := by decide +kernel
theorem dL_law_671 : decode cL_law 671 = .ok (.iconst 1, 1) := by decide +kernel
theorem dL_law_672 : decode cL_law 672 = .ok (.iadd, 1) := by decide +kernel
theorem dL_law_673 : decode cL_law 673 = .ok (.iaload, 1) := by decide +kernel
theorem dL_law_674 : decode cL_law 674 = .ok (.invokevirtual 88, 3) := by decide +kernel
theorem dL_law_677 : decode cL_law 677 = .ok (.if_icmp .eq 773, 3) := by decide +kernel
theorem dL_law_680 : decode cL_law 680 = .ok (.iconst 0, 1) := by decide +kernel
theorem dL_law_681 : decode cL_law 681 = .ok (.ireturn, 1) := by decide +kernel
theorem dL_law_682 : decode cL_law 682 = .ok (.aload_n 1, 1) := by decide +kernel
theorem dL_law_683 : decode cL_law 683 = .ok (.aload_n 0, 1) := by decide +kernel
theorem dL_law_684 : decode cL_law 684 = .ok (.iload_n 3, 1) := by decide +kernel
theorem dL_law_685 : decode cL_law 685 = .ok (.iconst 1, 1) := by decide +kernel
theorem dL_law_686 : decode cL_law 686 = .ok (.iadd, 1) := by decide +kernel
theorem dL_law_687 : decode cL_law 687 = .ok (.iaload, 1) := by decide +kernel
theorem dL_law_688 : decode cL_law 688 = .ok (.aload_n 0, 1) := by decide +kernel
theorem dL_law_689 : decode cL_law 689 = .ok (.iload_n 3, 1) := by decide +kernel
theorem dL_law_690 : decode cL_law 690 = .ok (.iconst 2, 1) := by decide +kernel
theorem dL_law_691 : decode cL_law 691 = .ok (.iadd, 1) := by decide +kernel
theorem dL_law_692 : decode cL_law 692 = .ok (.iaload, 1) := by decide +kernel
theorem dL_law_693 : decode cL_law 693 = .ok (.aload_n 0, 1) := by decide +kernel
theorem dL_law_694 : decode cL_law 694 = .ok (.iload_n 3, 1) := by decide +kernel
theorem dL_law_695 : decode cL_law 695 = .ok (.iconst 3, 1) := by decide +kernel
theorem dL_law_696 : decode cL_law 696 = .ok (.iadd, 1) := by decide +kernel
theorem dL_law_697 : decode cL_law 697 = .ok (.iaload, 1) := by decide +kernel
theorem dL_law_698 : decode cL_law 698 = .ok (.invokevirtual 89, 3) := by decide +kernel
theorem dL_law_701 : decode cL_law 701 = .ok (.aload_n 2, 1) := by decide +kernel
theorem dL_law_702 : decode cL_law 702 = .ok (.aload_n 0, 1) := by decide +kernel
theorem dL_law_703 : decode cL_law 703 = .ok (.iload_n 3, 1) := by decide +kernel
theorem dL_law_704 : decode cL_law 704 = .ok (.iconst 1, 1) := by decide +kernel
theorem dL_law_705 : decode cL_law 705 = .ok (.iadd, 1) := by decide +kernel
theorem dL_law_706 : decode cL_law 706 = .ok (.iaload, 1) := by decide +kernel
theorem dL_law_707 : decode cL_law 707 = .ok (.aload_n 0, 1) := by decide +kernel
theorem dL_law_708 : decode cL_law 708 = .ok (.iload_n 3, 1) := by decide +kernel
theorem dL_law_709 : decode cL_law 709 = .ok (.iconst 2, 1) := by decide +kernel
theorem dL_law_710 : decode cL_law 710 = .ok (.iadd, 1) := by decide +kernel
theorem dL_law_711 : decode cL_law 711 = .ok (.iaload, 1) := by decide +kernel
theorem dL_law_712 : decode cL_law 712 = .ok (.aload_n 0, 1) := by decide +kernel
theorem dL_law_713 : decode cL_law 713 = .ok (.iload_n 3, 1) := by decide +kernel
theorem dL_law_714 : decode cL_law 714 = .ok (.iconst 3, 1) := by decide +kernel
theorem dL_law_715 : decode cL_law 715 = .ok (.iadd, 1) := by decide +kernel
theorem dL_law_716 : decode cL_law 716 = .ok (.iaload, 1) := by decide +kernel
theorem dL_law_717 : decode cL_law 717 = .ok (.invokevirtual 92, 3) := by decide +kernel
theorem dL_law_720 : decode cL_law 720 = .ok (.if_icmp .eq 730, 3) := by decide +kernel
theorem dL_law_723 : decode cL_law 723 = .ok (.iconst 0, 1) := by decide +kernel
theorem dL_law_724 : decode cL_law 724 = .ok (.ireturn, 1) := by decide +kernel
theorem dL_law_725 : decode cL_law 725 = .ok (.aload_n 1, 1) := by decide +kernel
theorem dL_law_726 : decode cL_law 726 = .ok (.aload_n 0, 1) := by decide +kernel
theorem dL_law_727 : decode cL_law 727 = .ok (.iload_n 3, 1) := by decide +kernel
theorem dL_law_728 : decode cL_law 728 = .ok (.iconst 1, 1) := by decide +kernel
theorem dL_law_729 : decode cL_law 729 = .ok (.iadd, 1) := by decide +kernel
theorem dL_law_730 : decode cL_law 730 = .ok (.iaload, 1) := by decide +kernel
theorem dL_law_731 : decode cL_law 731 = .ok (.aload_n 0, 1) := by decide +kernel
theorem dL_law_732 : decode cL_law 732 = .ok (.iload_n 3, 1) := by decide +kernel
theorem dL_law_733 : decode cL_law 733 = .ok (.iconst 2, 1) := by decide +kernel
theorem dL_law_734 : decode cL_law 734 = .ok (.iadd, 1) := by decide +kernel
theorem dL_law_735 : decode cL_law 735 = .ok (.iaload, 1) := by decide +kernel
theorem dL_law_736 : decode cL_law 736 = .ok (.invokevirtual 93, 3) := by decide +kernel
theorem dL_law_739 : decode cL_law 739 = .ok (.aload_n 2, 1) := by decide +kernel
theorem dL_law_740 : decode cL_law 740 = .ok (.aload_n 0, 1) := by decide +kernel
theorem dL_law_741 : decode cL_law 741 = .ok (.iload_n 3, 1) := by decide +kernel
theorem dL_law_742 : decode cL_law 742 = .ok (.iconst 1, 1) := by decide +kernel
theorem dL_law_743 : decode cL_law 743 = .ok (.iadd, 1) := by decide +kernel
theorem dL_law_744 : decode cL_law 744 = .ok (.iaload, 1) := by decide +kernel
theorem dL_law_745 : decode cL_law 745 = .ok (.aload_n 0, 1) := by decide +kernel
theorem dL_law_746 : decode cL_law 746 = .ok (.iload_n 3, 1) := by decide +kernel
theorem dL_law_747 : decode cL_law 747 = .ok (.iconst 2, 1) := by decide +kernel
theorem dL_law_748 : decode cL_law 748 = .ok (.iadd, 1) := by decide +kernel
theorem dL_law_749 : decode cL_law 749 = .ok (.iaload, 1) := by decide +kernel
theorem dL_law_750 : decode cL_law 750 = .ok (.invokevirtual 96, 3) := by decide +kernel
theorem dL_law_753 : decode cL_law 753 = .ok (.if_icmp .eq 697, 3) := by decide +kernel
theorem dL_law_756 : decode cL_law 756 = .ok (.iconst 0, 1) := by decide +kernel
theorem dL_law_757 : decode cL_law 757 = .ok (.ireturn, 1) := by decide +kernel
theorem dL_law_758 : decode cL_law 758 = .ok (.aload_n 1, 1) := by decide +kernel
theorem dL_law_759 : decode cL_law 759 = .ok (.aload_n 0, 1) := by decide +kernel
theorem dL_law_760 : decode cL_law 760 = .ok (.iload_n 3, 1) := by decide +kernel
theorem dL_law_761 : decode cL_law 761 = .ok (.iconst 1, 1) := by decide +kernel
theorem dL_law_762 : decode cL_law 762 = .ok (.iadd, 1) := by decide +kernel
theorem dL_law_763 : decode cL_law 763 = .ok (.iaload, 1) := by decide +kernel
theorem dL_law_764 : decode cL_law 764 = .ok (.aload_n 0, 1) := by decide +kernel
theorem dL_law_765 : decode cL_law 765 = .ok (.iload_n 3, 1) := by decide +kernel
theorem dL_law_766 : decode cL_law 766 = .ok (.iconst 2, 1) := by decide +kernel
theorem dL_law_767 : decode cL_law 767 = .ok (.iadd, 1) := by decide +kernel
theorem dL_law_768 : decode cL_law 768 = .ok (.iaload, 1) := by decide +kernel
theorem dL_law_769 : decode cL_law 769 = .ok (.invokevirtual 97, 3) := by decide +kernel
theorem dL_law_772 : decode cL_law 772 = .ok (.aload_n 2, 1) := by decide +kernel
theorem dL_law_773 : decode cL_law 773 = .ok (.aload_n 0, 1) := by decide +kernel
theorem dL_law_774 : decode cL_law 774 = .ok (.iload_n 3, 1) := by decide +kernel
theorem dL_law_775 : decode cL_law 775 = .ok (.iconst 1, 1) := by decide +kernel
theorem dL_law_776 : decode cL_law 776 = .ok (.iadd, 1) := by decide +kernel
theorem dL_law_777 : decode cL_law 777 = .ok (.iaload, 1) := by decide +kernel
theorem dL_law_778 : decode cL_law 778 = .ok (.aload_n 0, 1) := by decide +kernel
theorem dL_law_779 : decode cL_law 779 = .ok (.iload_n 3, 1) := by decide +kernel
theorem dL_law_780 : decode cL_law 780 = .ok (.iconst 2, 1) := by decide +kernel
theorem dL_law_781 : decode cL_law 781 = .ok (.iadd, 1) := by decide +kernel
theorem dL_law_782 : decode cL_law 782 = .ok (.iaload, 1) := by decide +kernel
theorem dL_law_783 : decode cL_law 783 = .ok (.invokevirtual 100, 3) := by decide +kernel
theorem dL_law_786 : decode cL_law 786 = .ok (.if_icmp .eq 664, 3) := by decide +kernel
theorem dL_law_789 : decode cL_law 789 = .ok (.iconst 0, 1) := by decide +kernel
theorem dL_law_790 : decode cL_law 790 = .ok (.ireturn, 1) := by decide +kernel
theorem dL_law_791 : decode cL_law 791 = .ok (.aload_n 1, 1) := by decide +kernel
theorem dL_law_792 : decode cL_law 792 = .ok (.aload_n 0, 1) := by decide +kernel
theorem dL_law_793 : decode cL_law 793 = .ok (.iload_n 3, 1) := by decide +kernel
theorem dL_law_794 : decode cL_law 794 = .ok (.iconst 1, 1) := by decide +kernel
theorem dL_law_795 : decode cL_law 795 = .ok (.iadd, 1) := by decide +kernel
theorem dL_law_796 : decode cL_law 796 = .ok (.iaload, 1) := by decide +kernel
theorem dL_law_797 : decode cL_law 797 = .ok (.aload_n 0, 1) := by decide +kernel
theorem dL_law_798 : decode cL_law 798 = .ok (.iload_n 3, 1) := by decide +kernel
theorem dL_law_799 : decode cL_law 799 = .ok (.iconst 2, 1) := by decide +kernel
theorem dL_law_800 : decode cL_law 800 = .ok (.iadd, 1) := by decide +kernel
theorem dL_law_801 : decode cL_law 801 = .ok (.iaload, 1) := by decide +kernel
theorem dL_law_802 : decode cL_law 802 = .ok (.invokevirtual 101, 3) := by decide +kernel
theorem dL_law_805 : decode cL_law 805 = .ok (.aload_n 2, 1) := by decide +kernel
theorem dL_law_806 : decode cL_law 806 = .ok (.aload_n 0, 1) := by decide +kernel
theorem dL_law_807 : decode cL_law 807 = .ok (.iload_n 3, 1) := by decide +kernel
theorem dL_law_808 : decode cL_law 808 = .ok (.iconst 1, 1) := by decide +kernel
theorem dL_law_809 : decode cL_law 809 = .ok (.iadd, 1) := by decide +kernel
theorem dL_law_810 : decode cL_law 810 = .ok (.iaload, 1) := by decide +kernel
theorem dL_law_811 : decode cL_law 811 = .ok (.aload_n 0, 1) := by decide +kernel
theorem dL_law_812 : decode cL_law 812 = .ok (.iload_n 3, 1) := by decide +kernel
theorem dL_law_813 : decode cL_law 813 = .ok (.iconst 2, 1) := by decide +kernel
theorem dL_law_814 : decode cL_law 814 = .ok (.iadd, 1) := by decide +kernel
theorem dL_law_815 : decode cL_law 815 = .ok (.iaload, 1) := by decide +kernel
theorem dL_law_816 : decode cL_law 816 = .ok (.invokevirtual 104, 3) := by decide +kernel
theorem dL_law_819 : decode cL_law 819 = .ok (.if_icmp .eq 631, 3) := by decide +kernel
theorem dL_law_822 : decode cL_law 822 = .ok (.iconst 0, 1) := by decide +kernel
theorem dL_law_823 : decode cL_law 823 = .ok (.ireturn, 1) := by decide +kernel
theorem dL_law_824 : decode cL_law 824 = .ok (.aload_n 1, 1) := by decide +kernel
theorem dL_law_825 : decode cL_law 825 = .ok (.aload_n 0, 1) := by decide +kernel
theorem dL_law_826 : decode cL_law 826 = .ok (.iload_n 3, 1) := by decide +kernel
theorem dL_law_827 : decode cL_law 827 = .ok (.iconst 1, 1) := by decide +kernel
theorem dL_law_828 : decode cL_law 828 = .ok (.iadd, 1) := by decide +kernel
theorem dL_law_829 : decode cL_law 829 = .ok (.iaload, 1) := by decide +kernel
theorem dL_law_830 : decode cL_law 830 = .ok (.aload_n 0, 1) := by decide +kernel
theorem dL_law_831 : decode cL_law 831 = .ok (.iload_n 3, 1) := by decide +kernel
theorem dL_law_832 : decode cL_law 832 = .ok (.iconst 2, 1) := by decide +kernel
theorem dL_law_833 : decode cL_law 833 = .ok (.iadd, 1) := by decide +kernel
theorem dL_law_834 : decode cL_law 834 = .ok (.iaload, 1) := by decide +kernel
theorem dL_law_835 : decode cL_law 835 = .ok (.invokevirtual 105, 3) := by decide +kernel
theorem dL_law_838 : decode cL_law 838 = .ok (.aload_n 2, 1) := by decide +kernel
theorem dL_law_839 : decode cL_law 839 = .ok (.aload_n 0, 1) := by decide +kernel
theorem dL_law_840 : decode cL_law 840 = .ok (.iload_n 3, 1) := by decide +kernel
theorem dL_law_841 : decode cL_law 841 = .ok (.iconst 1, 1) := by decide +kernel
theorem dL_law_842 : decode cL_law 842 = .ok (.iadd, 1) := by decide +kernel
theorem dL_law_843 : decode cL_law 843 = .ok (.iaload, 1) := by decide +kernel
theorem dL_law_844 : decode cL_law 844 = .ok (.aload_n 0, 1) := by decide +kernel
theorem dL_law_845 : decode cL_law 845 = .ok (.iload_n 3, 1) := by decide +kernel
theorem dL_law_846 : decode cL_law 846 = .ok (.iconst 2, 1) := by decide +kernel
theorem dL_law_847 : decode cL_law 847 = .ok (.iadd, 1) := by decide +kernel
theorem dL_law_848 : decode cL_law 848 = .ok (.iaload, 1) := by decide +kernel
theorem dL_law_849 : decode cL_law 849 = .ok (.invokevirtual 108, 3) := by decide +kernel
theorem dL_law_852 : decode cL_law 852 = .ok (.if_icmp .eq 598, 3) := by decide +kernel
theorem dL_law_855 : decode cL_law 855 = .ok (.iconst 0, 1) := by decide +kernel
theorem dL_law_856 : decode cL_law 856 = .ok (.ireturn, 1) := by decide +kernel
theorem dL_law_857 : decode cL_law 857 = .ok (.aload_n 1, 1) := by decide +kernel
theorem dL_law_858 : decode cL_law 858 = .ok (.aload_n 0, 1) := by decide +kernel
theorem dL_law_859 : decode cL_law 859 = .ok (.iload_n 3, 1) := by decide +kernel
theorem dL_law_860 : decode cL_law 860 = .ok (.iconst 1, 1) := by decide +kernel
theorem dL_law_861 : decode cL_law 861 = .ok (.iadd, 1) := by decide +kernel
theorem dL_law_862 : decode cL_law 862 = .ok (.iaload, 1) := by decide +kernel
theorem dL_law_863 : decode cL_law 863 = .ok (.aload_n 0, 1) := by decide +kernel
theorem dL_law_864 : decode cL_law 864 = .ok (.iload_n 3, 1) := by decide +kernel
theorem dL_law_865 : decode cL_law 865 = .ok (.iconst 2, 1) := by decide +kernel
theorem dL_law_866 : decode cL_law 866 = .ok (.iadd, 1) := by decide +kernel
theorem dL_law_867 : decode cL_law 867 = .ok (.iaload, 1) := by decide +kernel
theorem dL_law_868 : decode cL_law 868 = .ok (.aload_n 0, 1) := by decide +kernel
theorem dL_law_869 : decode cL_law 869 = .ok (.iload_n 3, 1) := by decide +kernel
theorem dL_law_870 : decode cL_law 870 = .ok (.iconst 3, 1) := by decide +kernel
theorem dL_law_871 : decode cL_law 871 = .ok (.iadd, 1) := by decide +kernel
theorem dL_law_872 : decode cL_law 872 = .ok (.iaload, 1) := by decide +kernel
theorem dL_law_873 : decode cL_law 873 = .ok (.invokevirtual 109, 3) := by decide +kernel
theorem dL_law_876 : decode cL_law 876 = .ok (.aload_n 2, 1) := by decide +kernel
theorem dL_law_877 : decode cL_law 877 = .ok (.aload_n 0, 1) := by decide +kernel
theorem dL_law_878 : decode cL_law 878 = .ok (.iload_n 3, 1) := by decide +kernel
theorem dL_law_879 : decode cL_law 879 = .ok (.iconst 1, 1) := by decide +kernel
theorem dL_law_880 : decode cL_law 880 = .ok (.iadd, 1) := by decide +kernel
theorem dL_law_881 : decode cL_law 881 = .ok (.iaload, 1) := by decide +kernel
theorem dL_law_882 : decode cL_law 882 = .ok (.aload_n 0, 1) := by decide +kernel
theorem dL_law_883 : decode cL_law 883 = .ok (.iload_n 3, 1) := by decide +kernel
theorem dL_law_884 : decode cL_law 884 = .ok (.iconst 2, 1) := by decide +kernel
theorem dL_law_885 : decode cL_law 885 = .ok (.iadd, 1) := by decide +kernel
theorem dL_law_886 : decode cL_law 886 = .ok (.iaload, 1) := by decide +kernel
theorem dL_law_887 : decode cL_law 887 = .ok (.aload_n 0, 1) := by decide +kernel
theorem dL_law_888 : decode cL_law 888 = .ok (.iload_n 3, 1) := by decide +kernel
theorem dL_law_889 : decode cL_law 889 = .ok (.iconst 3, 1) := by decide +kernel
theorem dL_law_890 : decode cL_law 890 = .ok (.iadd, 1) := by decide +kernel
theorem dL_law_891 : decode cL_law 891 = .ok (.iaload, 1) := by decide +kernel
theorem dL_law_892 : decode cL_law 892 = .ok (.invokevirtual 112, 3) := by decide +kernel
theorem dL_law_895 : decode cL_law 895 = .ok (.if_icmp .eq 555, 3) := by decide +kernel
theorem dL_law_898 : decode cL_law 898 = .ok (.iconst 0, 1) := by decide +kernel
theorem dL_law_899 : decode cL_law 899 = .ok (.ireturn, 1) := by decide +kernel
theorem dL_law_900 : decode cL_law 900 = .ok (.aload_n 1, 1) := by decide +kernel
theorem dL_law_901 : decode cL_law 901 = .ok (.aload_n 0, 1) := by decide +kernel
theorem dL_law_902 : decode cL_law 902 = .ok (.iload_n 3, 1) := by decide +kernel
theorem dL_law_903 : decode cL_law 903 = .ok (.iconst 1, 1) := by decide +kernel
theorem dL_law_904 : decode cL_law 904 = .ok (.iadd, 1) := by decide +kernel
theorem dL_law_905 : decode cL_law 905 = .ok (.iaload, 1) := by decide +kernel
theorem dL_law_906 : decode cL_law 906 = .ok (.aload_n 0, 1) := by decide +kernel
theorem dL_law_907 : decode cL_law 907 = .ok (.iload_n 3, 1) := by decide +kernel
theorem dL_law_908 : decode cL_law 908 = .ok (.iconst 2, 1) := by decide +kernel
theorem dL_law_909 : decode cL_law 909 = .ok (.iadd, 1) := by decide +kernel
theorem dL_law_910 : decode cL_law 910 = .ok (.iaload, 1) := by decide +kernel
theorem dL_law_911 : decode cL_law 911 = .ok (.aload_n 0, 1) := by decide +kernel
theorem dL_law_912 : decode cL_law 912 = .ok (.iload_n 3, 1) := by decide +kernel
theorem dL_law_913 : decode cL_law 913 = .ok (.iconst 3, 1) := by decide +kernel
theorem dL_law_914 : decode cL_law 914 = .ok (.iadd, 1) := by decide +kernel
theorem dL_law_915 : decode cL_law 915 = .ok (.iaload, 1) := by decide +kernel
theorem dL_law_916 : decode cL_law 916 = .ok (.invokevirtual 113, 3) := by decide +kernel
theorem dL_law_919 : decode cL_law 919 = .ok (.aload_n 2, 1) := by decide +kernel
theorem dL_law_920 : decode cL_law 920 = .ok (.aload_n 0, 1) := by decide +kernel
theorem dL_law_921 : decode cL_law 921 = .ok (.iload_n 3, 1) := by decide +kernel
theorem dL_law_922 : decode cL_law 922 = .ok (.iconst 1, 1) := by decide +kernel
theorem dL_law_923 : decode cL_law 923 = .ok (.iadd, 1) := by decide +kernel
theorem dL_law_924 : decode cL_law 924 = .ok (.iaload, 1) := by decide +kernel
theorem dL_law_925 : decode cL_law 925 = .ok (.aload_n 0, 1) := by decide +kernel
theorem dL_law_926 : decode cL_law 926 = .ok (.iload_n 3, 1) := by decide +kernel
theorem dL_law_927 : decode cL_law 927 = .ok (.iconst 2, 1) := by decide +kernel
theorem dL_law_928 : decode cL_law 928 = .ok (.iadd, 1) := by decide +kernel
theorem dL_law_929 : decode cL_law 929 = .ok (.iaload, 1) := by decide +kernel
theorem dL_law_930 : decode cL_law 930 = .ok (.aload_n 0, 1) := by decide +kernel
theorem dL_law_931 : decode cL_law 931 = .ok (.iload_n 3, 1) := by decide +kernel
theorem dL_law_932 : decode cL_law 932 = .ok (.iconst 3, 1) := by decide +kernel
theorem dL_law_933 : decode cL_law 933 = .ok (.iadd, 1) := by decide +kernel
theorem dL_law_934 : decode cL_law 934 = .ok (.iaload, 1) := by decide +kernel
theorem dL_law_935 : decode cL_law 935 = .ok (.invokevirtual 116, 3) := by decide +kernel
theorem dL_law_938 : decode cL_law 938 = .ok (.if_icmp .eq 512, 3) := by decide +kernel
theorem dL_law_941 : decode cL_law 941 = .ok (.iconst 0, 1) := by decide +kernel
theorem dL_law_942 : decode cL_law 942 = .ok (.ireturn, 1) := by decide +kernel
theorem dL_law_943 : decode cL_law 943 = .ok (.aload_n 1, 1) := by decide +kernel
theorem dL_law_944 : decode cL_law 944 = .ok (.aload_n 0, 1) := by decide +kernel
theorem dL_law_945 : decode cL_law 945 = .ok (.iload_n 3, 1) := by decide +kernel
theorem dL_law_946 : decode cL_law 946 = .ok (.iconst 1, 1) := by decide +kernel
theorem dL_law_947 : decode cL_law 947 = .ok (.iadd, 1) := by decide +kernel
theorem dL_law_948 : decode cL_law 948 = .ok (.iaload, 1) := by decide +kernel
theorem dL_law_949 : decode cL_law 949 = .ok (.aload_n 0, 1) := by decide +kernel
theorem dL_law_950 : decode cL_law 950 = .ok (.iload_n 3, 1) := by decide +kernel
theorem dL_law_951 : decode cL_law 951 = .ok (.iconst 2, 1) := by decide +kernel
theorem dL_law_952 : decode cL_law 952 = .ok (.iadd, 1) := by decide +kernel
theorem dL_law_953 : decode cL_law 953 = .ok (.iaload, 1) := by decide +kernel
theorem dL_law_954 : decode cL_law 954 = .ok (.aload_n 0, 1) := by decide +kernel
theorem dL_law_955 : decode cL_law 955 = .ok (.iload_n 3, 1) := by decide +kernel
theorem dL_law_956 : decode cL_law 956 = .ok (.iconst 3, 1) := by decide +kernel
theorem dL_law_957 : decode cL_law 957 = .ok (.iadd, 1) := by decide +kernel
theorem dL_law_958 : decode cL_law 958 = .ok (.iaload, 1) := by decide +kernel
theorem dL_law_959 : decode cL_law 959 = .ok (.aload_n 0, 1) := by decide +kernel
theorem dL_law_960 : decode cL_law 960 = .ok (.iload_n 3, 1) := by decide +kernel
theorem dL_law_961 : decode cL_law 961 = .ok (.iconst 4, 1) := by decide +kernel
theorem dL_law_962 : decode cL_law 962 = .ok (.iadd, 1) := by decide +kernel
theorem dL_law_963 : decode cL_law 963 = .ok (.iaload, 1) := by decide +kernel
theorem dL_law_964 : decode cL_law 964 = .ok (.invokevirtual 117, 3) := by decide +kernel
theorem dL_law_967 : decode cL_law 967 = .ok (.aload_n 2, 1) := by decide +kernel
theorem dL_law_968 : decode cL_law 968 = .ok (.aload_n 0, 1) := by decide +kernel
theorem dL_law_969 : decode cL_law 969 = .ok (.iload_n 3, 1) := by decide +kernel
theorem dL_law_970 : decode cL_law 970 = .ok (.iconst 1, 1) := by decide +kernel
theorem dL_law_971 : decode cL_law 971 = .ok (.iadd, 1) := by decide +kernel
theorem dL_law_972 : decode cL_law 972 = .ok (.iaload, 1) := by decide +kernel
theorem dL_law_973 : decode cL_law 973 = .ok (.aload_n 0, 1) := by decide +kernel
theorem dL_law_974 : decode cL_law 974 = .ok (.iload_n 3, 1) := by decide +kernel
theorem dL_law_975 : decode cL_law 975 = .ok (.iconst 2, 1) := by decide +kernel
theorem dL_law_976 : decode cL_law 976 = .ok (.iadd, 1) := by decide +kernel
theorem dL_law_977 : decode cL_law 977 = .ok (.iaload, 1) := by decide +kernel
theorem dL_law_978 : decode cL_law 978 = .ok (.aload_n 0, 1) := by decide +kernel
theorem dL_law_979 : decode cL_law 979 = .ok (.iload_n 3, 1) := by decide +kernel
theorem dL_law_980 : decode cL_law 980 = .ok (.iconst 3, 1) := by decide +kernel
theorem dL_law_981 : decode cL_law 981 = .ok (.iadd, 1) := by decide +kernel
theorem dL_law_982 : decode cL_law 982 = .ok (.iaload, 1) := by decide +kernel
theorem dL_law_983 : decode cL_law 983 = .ok (.aload_n 0, 1) := by decide +kernel
theorem dL_law_984 : decode cL_law 984 = .ok (.iload_n 3, 1) := by decide +kernel
theorem dL_law_985 : decode cL_law 985 = .ok (.iconst 4, 1) := by decide +kernel
theorem dL_law_986 : decode cL_law 986 = .ok (.iadd, 1) := by decide +kernel
theorem dL_law_987 : decode cL_law 987 = .ok (.iaload, 1) := by decide +kernel
theorem dL_law_988 : decode cL_law 988 = .ok (.invokevirtual 121, 3) := by decide +kernel
theorem dL_law_991 : decode cL_law 991 = .ok (.lcmp, 1) := by decide +kernel
theorem dL_law_992 : decode cL_law 992 = .ok (.ifCond .eq 458, 3) := by decide +kernel
theorem dL_law_995 : decode cL_law 995 = .ok (.iconst 0, 1) := by decide +kernel
theorem dL_law_996 : decode cL_law 996 = .ok (.ireturn, 1) := by decide +kernel
theorem dL_law_997 : decode cL_law 997 = .ok (.aload_n 1, 1) := by decide +kernel
theorem dL_law_998 : decode cL_law 998 = .ok (.aload_n 0, 1) := by decide +kernel
theorem dL_law_999 : decode cL_law 999 = .ok (.iload_n 3, 1) := by decide +kernel
theorem dL_law_1000 : decode cL_law 1000 = .ok (.iconst 1, 1) := by decide +kernel
theorem dL_law_1001 : decode cL_law 1001 = .ok (.iadd, 1) := by decide +kernel
theorem dL_law_1002 : decode cL_law 1002 = .ok (.iaload, 1) := by decide +kernel
theorem dL_law_1003 : decode cL_law 1003 = .ok (.aload_n 0, 1) := by decide +kernel
theorem dL_law_1004 : decode cL_law 1004 = .ok (.iload_n 3, 1) := by decide +kernel
theorem dL_law_1005 : decode cL_law 1005 = .ok (.iconst 2, 1) := by decide +kernel
theorem dL_law_1006 : decode cL_law 1006 = .ok (.iadd, 1) := by decide +kernel
theorem dL_law_1007 : decode cL_law 1007 = .ok (.iaload, 1) := by decide +kernel
theorem dL_law_1008 : decode cL_law 1008 = .ok (.aload_n 0, 1) := by decide +kernel
theorem dL_law_1009 : decode cL_law 1009 = .ok (.iload_n 3, 1) := by decide +kernel
theorem dL_law_1010 : decode cL_law 1010 = .ok (.iconst 3, 1) := by decide +kernel
theorem dL_law_1011 : decode cL_law 1011 = .ok (.iadd, 1) := by decide +kernel
theorem dL_law_1012 : decode cL_law 1012 = .ok (.iaload, 1) := by decide +kernel
theorem dL_law_1013 : decode cL_law 1013 = .ok (.invokevirtual 122, 3) := by decide +kernel
theorem dL_law_1016 : decode cL_law 1016 = .ok (.aload_n 2, 1) := by decide +kernel
theorem dL_law_1017 : decode cL_law 1017 = .ok (.aload_n 0, 1) := by decide +kernel
theorem dL_law_1018 : decode cL_law 1018 = .ok (.iload_n 3, 1) := by decide +kernel
theorem dL_law_1019 : decode cL_law 1019 = .ok (.iconst 1, 1) := by decide +kernel
theorem dL_law_1020 : decode cL_law 1020 = .ok (.iadd, 1) := by decide +kernel
theorem dL_law_1021 : decode cL_law 1021 = .ok (.iaload, 1) := by decide +kernel
theorem dL_law_1022 : decode cL_law 1022 = .ok (.aload_n 0, 1) := by decide +kernel
theorem dL_law_1023 : decode cL_law 1023 = .ok (.iload_n 3, 1) := by decide +kernel
theorem dL_law_1024 : decode cL_law 1024 = .ok (.iconst 2, 1) := by decide +kernel
theorem dL_law_1025 : decode cL_law 1025 = .ok (.iadd, 1) := by decide +kernel
theorem dL_law_1026 : decode cL_law 1026 = .ok (.iaload, 1) := by decide +kernel
theorem dL_law_1027 : decode cL_law 1027 = .ok (.aload_n 0, 1) := by decide +kernel
theorem dL_law_1028 : decode cL_law 1028 = .ok (.iload_n 3, 1) := by decide +kernel
theorem dL_law_1029 : decode cL_law 1029 = .ok (.iconst 3, 1) := by decide +kernel
theorem dL_law_1030 : decode cL_law 1030 = .ok (.iadd, 1) := by decide +kernel
theorem dL_law_1031 : decode cL_law 1031 = .ok (.iaload, 1) := by decide +kernel
theorem dL_law_1032 : decode cL_law 1032 = .ok (.invokevirtual 126, 3) := by decide +kernel
theorem dL_law_1035 : decode cL_law 1035 = .ok (.lcmp, 1) := by decide +kernel
theorem dL_law_1036 : decode cL_law 1036 = .ok (.ifCond .eq 414, 3) := by decide +kernel
theorem dL_law_1039 : decode cL_law 1039 = .ok (.iconst 0, 1) := by decide +kernel
theorem dL_law_1040 : decode cL_law 1040 = .ok (.ireturn, 1) := by decide +kernel
theorem dL_law_1041 : decode cL_law 1041 = .ok (.aload_n 1, 1) := by decide +kernel
theorem dL_law_1042 : decode cL_law 1042 = .ok (.aload_n 0, 1) := by decide +kernel
theorem dL_law_1043 : decode cL_law 1043 = .ok (.iload_n 3, 1) := by decide +kernel
theorem dL_law_1044 : decode cL_law 1044 = .ok (.iconst 1, 1) := by decide +kernel
theorem dL_law_1045 : decode cL_law 1045 = .ok (.iadd, 1) := by decide +kernel
theorem dL_law_1046 : decode cL_law 1046 = .ok (.iaload, 1) := by decide +kernel
theorem dL_law_1047 : decode cL_law 1047 = .ok (.aload_n 0, 1) := by decide +kernel
theorem dL_law_1048 : decode cL_law 1048 = .ok (.iload_n 3, 1) := by decide +kernel
theorem dL_law_1049 : decode cL_law 1049 = .ok (.iconst 2, 1) := by decide +kernel
theorem dL_law_1050 : decode cL_law 1050 = .ok (.iadd, 1) := by decide +kernel
theorem dL_law_1051 : decode cL_law 1051 = .ok (.iaload, 1) := by decide +kernel
theorem dL_law_1052 : decode cL_law 1052 = .ok (.aload_n 0, 1) := by decide +kernel
theorem dL_law_1053 : decode cL_law 1053 = .ok (.iload_n 3, 1) := by decide +kernel
theorem dL_law_1054 : decode cL_law 1054 = .ok (.iconst 3, 1) := by decide +kernel
theorem dL_law_1055 : decode cL_law 1055 = .ok (.iadd, 1) := by decide +kernel
theorem dL_law_1056 : decode cL_law 1056 = .ok (.iaload, 1) := by decide +kernel
theorem dL_law_1057 : decode cL_law 1057 = .ok (.invokevirtual 127, 3) := by decide +kernel
theorem dL_law_1060 : decode cL_law 1060 = .ok (.aload_n 2, 1) := by decide +kernel
theorem dL_law_1061 : decode cL_law 1061 = .ok (.aload_n 0, 1) := by decide +kernel
theorem dL_law_1062 : decode cL_law 1062 = .ok (.iload_n 3, 1) := by decide +kernel
theorem dL_law_1063 : decode cL_law 1063 = .ok (.iconst 1, 1) := by decide +kernel
theorem dL_law_1064 : decode cL_law 1064 = .ok (.iadd, 1) := by decide +kernel
theorem dL_law_1065 : decode cL_law 1065 = .ok (.iaload, 1) := by decide +kernel
theorem dL_law_1066 : decode cL_law 1066 = .ok (.aload_n 0, 1) := by decide +kernel
theorem dL_law_1067 : decode cL_law 1067 = .ok (.iload_n 3, 1) := by decide +kernel
theorem dL_law_1068 : decode cL_law 1068 = .ok (.iconst 2, 1) := by decide +kernel
theorem dL_law_1069 : decode cL_law 1069 = .ok (.iadd, 1) := by decide +kernel
theorem dL_law_1070 : decode cL_law 1070 = .ok (.iaload, 1) := by decide +kernel
theorem dL_law_1071 : decode cL_law 1071 = .ok (.aload_n 0, 1) := by decide +kernel
theorem dL_law_1072 : decode cL_law 1072 = .ok (.iload_n 3, 1) := by decide +kernel
theorem dL_law_1073 : decode cL_law 1073 = .ok (.iconst 3, 1) := by decide +kernel
theorem dL_law_1074 : decode cL_law 1074 = .ok (.iadd, 1) := by decide +kernel
theorem dL_law_1075 : decode cL_law 1075 = .ok (.iaload, 1) := by decide +kernel
theorem dL_law_1076 : decode cL_law 1076 = .ok (.invokevirtual 130, 3) := by decide +kernel
theorem dL_law_1079 : decode cL_law 1079 = .ok (.if_icmp .eq 371, 3) := by decide +kernel
theorem dL_law_1082 : decode cL_law 1082 = .ok (.iconst 0, 1) := by decide +kernel
theorem dL_law_1083 : decode cL_law 1083 = .ok (.ireturn, 1) := by decide +kernel
theorem dL_law_1084 : decode cL_law 1084 = .ok (.aload_n 1, 1) := by decide +kernel
theorem dL_law_1085 : decode cL_law 1085 = .ok (.aload_n 0, 1) := by decide +kernel
theorem dL_law_1086 : decode cL_law 1086 = .ok (.iload_n 3, 1) := by decide +kernel
theorem dL_law_1087 : decode cL_law 1087 = .ok (.iconst 1, 1) := by decide +kernel
theorem dL_law_1088 : decode cL_law 1088 = .ok (.iadd, 1) := by decide +kernel
theorem dL_law_1089 : decode cL_law 1089 = .ok (.iaload, 1) := by decide +kernel
theorem dL_law_1090 : decode cL_law 1090 = .ok (.invokevirtual 131, 3) := by decide +kernel
theorem dL_law_1093 : decode cL_law 1093 = .ok (.aload_n 2, 1) := by decide +kernel
theorem dL_law_1094 : decode cL_law 1094 = .ok (.aload_n 0, 1) := by decide +kernel
theorem dL_law_1095 : decode cL_law 1095 = .ok (.iload_n 3, 1) := by decide +kernel
theorem dL_law_1096 : decode cL_law 1096 = .ok (.iconst 1, 1) := by decide +kernel
theorem dL_law_1097 : decode cL_law 1097 = .ok (.iadd, 1) := by decide +kernel
theorem dL_law_1098 : decode cL_law 1098 = .ok (.iaload, 1) := by decide +kernel
theorem dL_law_1099 : decode cL_law 1099 = .ok (.invokevirtual 134, 3) := by decide +kernel
theorem dL_law_1102 : decode cL_law 1102 = .ok (.if_icmp .eq 348, 3) := by decide +kernel
theorem dL_law_1105 : decode cL_law 1105 = .ok (.iconst 0, 1) := by decide +kernel
theorem dL_law_1106 : decode cL_law 1106 = .ok (.ireturn, 1) := by decide +kernel
theorem dL_law_1107 : decode cL_law 1107 = .ok (.aload_n 1, 1) := by decide +kernel
theorem dL_law_1108 : decode cL_law 1108 = .ok (.aload_n 0, 1) := by decide +kernel
theorem dL_law_1109 : decode cL_law 1109 = .ok (.iload_n 3, 1) := by decide +kernel
theorem dL_law_1110 : decode cL_law 1110 = .ok (.iconst 1, 1) := by decide +kernel
theorem dL_law_1111 : decode cL_law 1111 = .ok (.iadd, 1) := by decide +kernel
theorem dL_law_1112 : decode cL_law 1112 = .ok (.iaload, 1) := by decide +kernel
theorem dL_law_1113 : decode cL_law 1113 = .ok (.invokevirtual 135, 3) := by decide +kernel
theorem dL_law_1116 : decode cL_law 1116 = .ok (.aload_n 2, 1) := by decide +kernel
theorem dL_law_1117 : decode cL_law 1117 = .ok (.aload_n 0, 1) := by decide +kernel
theorem dL_law_1118 : decode cL_law 1118 = .ok (.iload_n 3, 1) := by decide +kernel
theorem dL_law_1119 : decode cL_law 1119 = .ok (.iconst 1, 1) := by decide +kernel
theorem dL_law_1120 : decode cL_law 1120 = .ok (.iadd, 1) := by decide +kernel
theorem dL_law_1121 : decode cL_law 1121 = .ok (.iaload, 1) := by decide +kernel
theorem dL_law_1122 : decode cL_law 1122 = .ok (.invokevirtual 138, 3) := by decide +kernel
theorem dL_law_1125 : decode cL_law 1125 = .ok (.if_icmp .eq 325, 3) := by decide +kernel
theorem dL_law_1128 : decode cL_law 1128 = .ok (.iconst 0, 1) := by decide +kernel
theorem dL_law_1129 : decode cL_law 1129 = .ok (.ireturn, 1) := by decide +kernel
theorem dL_law_1130 : decode cL_law 1130 = .ok (.aload_n 1, 1) := by decide +kernel
theorem dL_law_1131 : decode cL_law 1131 = .ok (.aload_n 0, 1) := by decide +kernel
theorem dL_law_1132 : decode cL_law 1132 = .ok (.iload_n 3, 1) := by decide +kernel
theorem dL_law_1133 : decode cL_law 1133 = .ok (.iconst 1, 1) := by decide +kernel
theorem dL_law_1134 : decode cL_law 1134 = .ok (.iadd, 1) := by decide +kernel
theorem dL_law_1135 : decode cL_law 1135 = .ok (.iaload, 1) := by decide +kernel
theorem dL_law_1136 : decode cL_law 1136 = .ok (.invokevirtual 139, 3) := by decide +kernel
theorem dL_law_1139 : decode cL_law 1139 = .ok (.aload_n 2, 1) := by decide +kernel
theorem dL_law_1140 : decode cL_law 1140 = .ok (.aload_n 0, 1) := by decide +kernel
theorem dL_law_1141 : decode cL_law 1141 = .ok (.iload_n 3, 1) := by decide +kernel
theorem dL_law_1142 : decode cL_law 1142 = .ok (.iconst 1, 1) := by decide +kernel
theorem dL_law_1143 : decode cL_law 1143 = .ok (.iadd, 1) := by decide +kernel
theorem dL_law_1144 : decode cL_law 1144 = .ok (.iaload, 1) := by decide +kernel
theorem dL_law_1145 : decode cL_law 1145 = .ok (.invokevirtual 142, 3) := by decide +kernel
theorem dL_law_1148 : decode cL_law 1148 = .ok (.if_icmp .eq 302, 3) := by decide +kernel
theorem dL_law_1151 : decode cL_law 1151 = .ok (.iconst 0, 1) := by decide +kernel
theorem dL_law_1152 : decode cL_law 1152 = .ok (.ireturn, 1) := by decide +kernel
theorem dL_law_1153 : decode cL_law 1153 = .ok (.aload_n 1, 1) := by decide +kernel
theorem dL_law_1154 : decode cL_law 1154 = .ok (.aload_n 0, 1) := by decide +kernel
theorem dL_law_1155 : decode cL_law 1155 = .ok (.iload_n 3, 1) := by decide +kernel
theorem dL_law_1156 : decode cL_law 1156 = .ok (.iconst 1, 1) := by decide +kernel
theorem dL_law_1157 : decode cL_law 1157 = .ok (.iadd, 1) := by decide +kernel
theorem dL_law_1158 : decode cL_law 1158 = .ok (.iaload, 1) := by decide +kernel
theorem dL_law_1159 : decode cL_law 1159 = .ok (.aload_n 0, 1) := by decide +kernel
theorem dL_law_1160 : decode cL_law 1160 = .ok (.iload_n 3, 1) := by decide +kernel
theorem dL_law_1161 : decode cL_law 1161 = .ok (.iconst 2, 1) := by decide +kernel
theorem dL_law_1162 : decode cL_law 1162 = .ok (.iadd, 1) := by decide +kernel
theorem dL_law_1163 : decode cL_law 1163 = .ok (.iaload, 1) := by decide +kernel
theorem dL_law_1164 : decode cL_law 1164 = .ok (.invokevirtual 143, 3) := by decide +kernel
theorem dL_law_1167 : decode cL_law 1167 = .ok (.aload_n 2, 1) := by decide +kernel
theorem dL_law_1168 : decode cL_law 1168 = .ok (.aload_n 0, 1) := by decide +kernel
theorem dL_law_1169 : decode cL_law 1169 = .ok (.iload_n 3, 1) := by decide +kernel
theorem dL_law_1170 : decode cL_law 1170 = .ok (.iconst 1, 1) := by decide +kernel
theorem dL_law_1171 : decode cL_law 1171 = .ok (.iadd, 1) := by decide +kernel
theorem dL_law_1172 : decode cL_law 1172 = .ok (.iaload, 1) := by decide +kernel
theorem dL_law_1173 : decode cL_law 1173 = .ok (.aload_n 0, 1) := by decide +kernel
theorem dL_law_1174 : decode cL_law 1174 = .ok (.iload_n 3, 1) := by decide +kernel
theorem dL_law_1175 : decode cL_law 1175 = .ok (.iconst 2, 1) := by decide +kernel
theorem dL_law_1176 : decode cL_law 1176 = .ok (.iadd, 1) := by decide +kernel
theorem dL_law_1177 : decode cL_law 1177 = .ok (.iaload, 1) := by decide +kernel
theorem dL_law_1178 : decode cL_law 1178 = .ok (.invokevirtual 146, 3) := by decide +kernel
theorem dL_law_1181 : decode cL_law 1181 = .ok (.if_icmp .eq 269, 3) := by decide +kernel
theorem dL_law_1184 : decode cL_law 1184 = .ok (.iconst 0, 1) := by decide +kernel
theorem dL_law_1185 : decode cL_law 1185 = .ok (.ireturn, 1) := by decide +kernel
theorem dL_law_1186 : decode cL_law 1186 = .ok (.aload_n 1, 1) := by decide +kernel
theorem dL_law_1187 : decode cL_law 1187 = .ok (.aload_n 0, 1) := by decide +kernel
theorem dL_law_1188 : decode cL_law 1188 = .ok (.iload_n 3, 1) := by decide +kernel
theorem dL_law_1189 : decode cL_law 1189 = .ok (.iconst 1, 1) := by decide +kernel
theorem dL_law_1190 : decode cL_law 1190 = .ok (.iadd, 1) := by decide +kernel
theorem dL_law_1191 : decode cL_law 1191 = .ok (.iaload, 1) := by decide +kernel
theorem dL_law_1192 : decode cL_law 1192 = .ok (.aload_n 0, 1) := by decide +kernel
theorem dL_law_1193 : decode cL_law 1193 = .ok (.iload_n 3, 1) := by decide +kernel
theorem dL_law_1194 : decode cL_law 1194 = .ok (.iconst 2, 1) := by decide +kernel
theorem dL_law_1195 : decode cL_law 1195 = .ok (.iadd, 1) := by decide +kernel
theorem dL_law_1196 : decode cL_law 1196 = .ok (.iaload, 1) := by decide +kernel
theorem dL_law_1197 : decode cL_law 1197 = .ok (.aload_n 0, 1) := by decide +kernel
theorem dL_law_1198 : decode cL_law 1198 = .ok (.iload_n 3, 1) := by decide +kernel
theorem dL_law_1199 : decode cL_law 1199 = .ok (.iconst 3, 1) := by decide +kernel
theorem dL_law_1200 : decode cL_law 1200 = .ok (.iadd, 1) := by decide +kernel
theorem dL_law_1201 : decode cL_law 1201 = .ok (.iaload, 1) := by decide +kernel
theorem dL_law_1202 : decode cL_law 1202 = .ok (.invokevirtual 147, 3) := by decide +kernel
theorem dL_law_1205 : decode cL_law 1205 = .ok (.aload_n 2, 1) := by decide +kernel
theorem dL_law_1206 : decode cL_law 1206 = .ok (.aload_n 0, 1) := by decide +kernel
theorem dL_law_1207 : decode cL_law 1207 = .ok (.iload_n 3, 1) := by decide +kernel
theorem dL_law_1208 : decode cL_law 1208 = .ok (.iconst 1, 1) := by decide +kernel
theorem dL_law_1209 : decode cL_law 1209 = .ok (.iadd, 1) := by decide +kernel
theorem dL_law_1210 : decode cL_law 1210 = .ok (.iaload, 1) := by decide +kernel
theorem dL_law_1211 : decode cL_law 1211 = .ok (.aload_n 0, 1) := by decide +kernel
theorem dL_law_1212 : decode cL_law 1212 = .ok (.iload_n 3, 1) := by decide +kernel
theorem dL_law_1213 : decode cL_law 1213 = .ok (.iconst 2, 1) := by decide +kernel
theorem dL_law_1214 : decode cL_law 1214 = .ok (.iadd, 1) := by decide +kernel
theorem dL_law_1215 : decode cL_law 1215 = .ok (.iaload, 1) := by decide +kernel
theorem dL_law_1216 : decode cL_law 1216 = .ok (.aload_n 0, 1) := by decide +kernel
theorem dL_law_1217 : decode cL_law 1217 = .ok (.iload_n 3, 1) := by decide +kernel
theorem dL_law_1218 : decode cL_law 1218 = .ok (.iconst 3, 1) := by decide +kernel
theorem dL_law_1219 : decode cL_law 1219 = .ok (.iadd, 1) := by decide +kernel
theorem dL_law_1220 : decode cL_law 1220 = .ok (.iaload, 1) := by decide +kernel
theorem dL_law_1221 : decode cL_law 1221 = .ok (.invokevirtual 150, 3) := by decide +kernel
theorem dL_law_1224 : decode cL_law 1224 = .ok (.if_icmp .eq 226, 3) := by decide +kernel
theorem dL_law_1227 : decode cL_law 1227 = .ok (.iconst 0, 1) := by decide +kernel
theorem dL_law_1228 : decode cL_law 1228 = .ok (.ireturn, 1) := by decide +kernel
theorem dL_law_1229 : decode cL_law 1229 = .ok (.aload_n 1, 1) := by decide +kernel
theorem dL_law_1230 : decode cL_law 1230 = .ok (.aload_n 0, 1) := by decide +kernel
theorem dL_law_1231 : decode cL_law 1231 = .ok (.iload_n 3, 1) := by decide +kernel
theorem dL_law_1232 : decode cL_law 1232 = .ok (.iconst 1, 1) := by decide +kernel
theorem dL_law_1233 : decode cL_law 1233 = .ok (.iadd, 1) := by decide +kernel
theorem dL_law_1234 : decode cL_law 1234 = .ok (.iaload, 1) := by decide +kernel
theorem dL_law_1235 : decode cL_law 1235 = .ok (.invokevirtual 151, 3) := by decide +kernel
theorem dL_law_1238 : decode cL_law 1238 = .ok (.aload_n 2, 1) := by decide +kernel
theorem dL_law_1239 : decode cL_law 1239 = .ok (.aload_n 0, 1) := by decide +kernel
theorem dL_law_1240 : decode cL_law 1240 = .ok (.iload_n 3, 1) := by decide +kernel
theorem dL_law_1241 : decode cL_law 1241 = .ok (.iconst 1, 1) := by decide +kernel
theorem dL_law_1242 : decode cL_law 1242 = .ok (.iadd, 1) := by decide +kernel
theorem dL_law_1243 : decode cL_law 1243 = .ok (.iaload, 1) := by decide +kernel
theorem dL_law_1244 : decode cL_law 1244 = .ok (.invokevirtual 154, 3) := by decide +kernel
theorem dL_law_1247 : decode cL_law 1247 = .ok (.if_icmp .eq 203, 3) := by decide +kernel
theorem dL_law_1250 : decode cL_law 1250 = .ok (.iconst 0, 1) := by decide +kernel
theorem dL_law_1251 : decode cL_law 1251 = .ok (.ireturn, 1) := by decide +kernel
theorem dL_law_1252 : decode cL_law 1252 = .ok (.aload_n 1, 1) := by decide +kernel
theorem dL_law_1253 : decode cL_law 1253 = .ok (.aload_n 0, 1) := by decide +kernel
theorem dL_law_1254 : decode cL_law 1254 = .ok (.iload_n 3, 1) := by decide +kernel
theorem dL_law_1255 : decode cL_law 1255 = .ok (.iconst 1, 1) := by decide +kernel
theorem dL_law_1256 : decode cL_law 1256 = .ok (.iadd, 1) := by decide +kernel
theorem dL_law_1257 : decode cL_law 1257 = .ok (.iaload, 1) := by decide +kernel
theorem dL_law_1258 : decode cL_law 1258 = .ok (.invokevirtual 155, 3) := by decide +kernel
theorem dL_law_1261 : decode cL_law 1261 = .ok (.aload_n 2, 1) := by decide +kernel
theorem dL_law_1262 : decode cL_law 1262 = .ok (.aload_n 0, 1) := by decide +kernel
theorem dL_law_1263 : decode cL_law 1263 = .ok (.iload_n 3, 1) := by decide +kernel
theorem dL_law_1264 : decode cL_law 1264 = .ok (.iconst 1, 1) := by decide +kernel
theorem dL_law_1265 : decode cL_law 1265 = .ok (.iadd, 1) := by decide +kernel
theorem dL_law_1266 : decode cL_law 1266 = .ok (.iaload, 1) := by decide +kernel
theorem dL_law_1267 : decode cL_law 1267 = .ok (.invokevirtual 158, 3) := by decide +kernel
theorem dL_law_1270 : decode cL_law 1270 = .ok (.if_icmp .eq 180, 3) := by decide +kernel
theorem dL_law_1273 : decode cL_law 1273 = .ok (.iconst 0, 1) := by decide +kernel
theorem dL_law_1274 : decode cL_law 1274 = .ok (.ireturn, 1) := by decide +kernel
theorem dL_law_1275 : decode cL_law 1275 = .ok (.aload_n 1, 1) := by decide +kernel
theorem dL_law_1276 : decode cL_law 1276 = .ok (.aload_n 0, 1) := by decide +kernel
theorem dL_law_1277 : decode cL_law 1277 = .ok (.iload_n 3, 1) := by decide +kernel
theorem dL_law_1278 : decode cL_law 1278 = .ok (.iconst 1, 1) := by decide +kernel
theorem dL_law_1279 : decode cL_law 1279 = .ok (.iadd, 1) := by decide +kernel
theorem dL_law_1280 : decode cL_law 1280 = .ok (.iaload, 1) := by decide +kernel
theorem dL_law_1281 : decode cL_law 1281 = .ok (.aload_n 0, 1) := by decide +kernel
theorem dL_law_1282 : decode cL_law 1282 = .ok (.iload_n 3, 1) := by decide +kernel
theorem dL_law_1283 : decode cL_law 1283 = .ok (.iconst 2, 1) := by decide +kernel
theorem dL_law_1284 : decode cL_law 1284 = .ok (.iadd, 1) := by decide +kernel
theorem dL_law_1285 : decode cL_law 1285 = .ok (.iaload, 1) := by decide +kernel
theorem dL_law_1286 : decode cL_law 1286 = .ok (.aload_n 0, 1) := by decide +kernel
theorem dL_law_1287 : decode cL_law 1287 = .ok (.iload_n 3, 1) := by decide +kernel
theorem dL_law_1288 : decode cL_law 1288 = .ok (.iconst 3, 1) := by decide +kernel
theorem dL_law_1289 : decode cL_law 1289 = .ok (.iadd, 1) := by decide +kernel
theorem dL_law_1290 : decode cL_law 1290 = .ok (.iaload, 1) := by decide +kernel
theorem dL_law_1291 : decode cL_law 1291 = .ok (.invokevirtual 159, 3) := by decide +kernel
theorem dL_law_1294 : decode cL_law 1294 = .ok (.aload_n 2, 1) := by decide +kernel
theorem dL_law_1295 : decode cL_law 1295 = .ok (.aload_n 0, 1) := by decide +kernel
theorem dL_law_1296 : decode cL_law 1296 = .ok (.iload_n 3, 1) := by decide +kernel
theorem dL_law_1297 : decode cL_law 1297 = .ok (.iconst 1, 1) := by decide +kernel
theorem dL_law_1298 : decode cL_law 1298 = .ok (.iadd, 1) := by decide +kernel
theorem dL_law_1299 : decode cL_law 1299 = .ok (.iaload, 1) := by decide +kernel
theorem dL_law_1300 : decode cL_law 1300 = .ok (.aload_n 0, 1) := by decide +kernel
theorem dL_law_1301 : decode cL_law 1301 = .ok (.iload_n 3, 1) := by decide +kernel
theorem dL_law_1302 : decode cL_law 1302 = .ok (.iconst 2, 1) := by decide +kernel
theorem dL_law_1303 : decode cL_law 1303 = .ok (.iadd, 1) := by decide +kernel
theorem dL_law_1304 : decode cL_law 1304 = .ok (.iaload, 1) := by decide +kernel
theorem dL_law_1305 : decode cL_law 1305 = .ok (.aload_n 0, 1) := by decide +kernel
theorem dL_law_1306 : decode cL_law 1306 = .ok (.iload_n 3, 1) := by decide +kernel
theorem dL_law_1307 : decode cL_law 1307 = .ok (.iconst 3, 1) := by decide +kernel
theorem dL_law_1308 : decode cL_law 1308 = .ok (.iadd, 1) := by decide +kernel
theorem dL_law_1309 : decode cL_law 1309 = .ok (.iaload, 1) := by decide +kernel
theorem dL_law_1310 : decode cL_law 1310 = .ok (.invokevirtual 162, 3) := by decide +kernel
theorem dL_law_1313 : decode cL_law 1313 = .ok (.if_icmp .eq 137, 3) := by decide +kernel
theorem dL_law_1316 : decode cL_law 1316 = .ok (.iconst 0, 1) := by decide +kernel
theorem dL_law_1317 : decode cL_law 1317 = .ok (.ireturn, 1) := by decide +kernel
theorem dL_law_1318 : decode cL_law 1318 = .ok (.aload_n 1, 1) := by decide +kernel
theorem dL_law_1319 : decode cL_law 1319 = .ok (.aload_n 0, 1) := by decide +kernel
theorem dL_law_1320 : decode cL_law 1320 = .ok (.iload_n 3, 1) := by decide +kernel
theorem dL_law_1321 : decode cL_law 1321 = .ok (.iconst 1, 1) := by decide +kernel
theorem dL_law_1322 : decode cL_law 1322 = .ok (.iadd, 1) := by decide +kernel
theorem dL_law_1323 : decode cL_law 1323 = .ok (.iaload, 1) := by decide +kernel
theorem dL_law_1324 : decode cL_law 1324 = .ok (.aload_n 0, 1) := by decide +kernel
theorem dL_law_1325 : decode cL_law 1325 = .ok (.iload_n 3, 1) := by decide +kernel
theorem dL_law_1326 : decode cL_law 1326 = .ok (.iconst 2, 1) := by decide +kernel
theorem dL_law_1327 : decode cL_law 1327 = .ok (.iadd, 1) := by decide +kernel
theorem dL_law_1328 : decode cL_law 1328 = .ok (.iaload, 1) := by decide +kernel
theorem dL_law_1329 : decode cL_law 1329 = .ok (.aload_n 0, 1) := by decide +kernel
theorem dL_law_1330 : decode cL_law 1330 = .ok (.iload_n 3, 1) := by decide +kernel
theorem dL_law_1331 : decode cL_law 1331 = .ok (.iconst 3, 1) := by decide +kernel
theorem dL_law_1332 : decode cL_law 1332 = .ok (.iadd, 1) := by decide +kernel
theorem dL_law_1333 : decode cL_law 1333 = .ok (.iaload, 1) := by decide +kernel
theorem dL_law_1334 : decode cL_law 1334 = .ok (.invokevirtual 163, 3) := by decide +kernel
theorem dL_law_1337 : decode cL_law 1337 = .ok (.aload_n 2, 1) := by decide +kernel
theorem dL_law_1338 : decode cL_law 1338 = .ok (.aload_n 0, 1) := by decide +kernel
theorem dL_law_1339 : decode cL_law 1339 = .ok (.iload_n 3, 1) := by decide +kernel
theorem dL_law_1340 : decode cL_law 1340 = .ok (.iconst 1, 1) := by decide +kernel
theorem dL_law_1341 : decode cL_law 1341 = .ok (.iadd, 1) := by decide +kernel
theorem dL_law_1342 : decode cL_law 1342 = .ok (.iaload, 1) := by decide +kernel
theorem dL_law_1343 : decode cL_law 1343 = .ok (.aload_n 0, 1) := by decide +kernel
theorem dL_law_1344 : decode cL_law 1344 = .ok (.iload_n 3, 1) := by decide +kernel
theorem dL_law_1345 : decode cL_law 1345 = .ok (.iconst 2, 1) := by decide +kernel
theorem dL_law_1346 : decode cL_law 1346 = .ok (.iadd, 1) := by decide +kernel
theorem dL_law_1347 : decode cL_law 1347 = .ok (.iaload, 1) := by decide +kernel
theorem dL_law_1348 : decode cL_law 1348 = .ok (.aload_n 0, 1) := by decide +kernel
theorem dL_law_1349 : decode cL_law 1349 = .ok (.iload_n 3, 1) := by decide +kernel
theorem dL_law_1350 : decode cL_law 1350 = .ok (.iconst 3, 1) := by decide +kernel
theorem dL_law_1351 : decode cL_law 1351 = .ok (.iadd, 1) := by decide +kernel
theorem dL_law_1352 : decode cL_law 1352 = .ok (.iaload, 1) := by decide +kernel
theorem dL_law_1353 : decode cL_law 1353 = .ok (.invokevirtual 166, 3) := by decide +kernel
theorem dL_law_1356 : decode cL_law 1356 = .ok (.if_icmp .eq 94, 3) := by decide +kernel
theorem dL_law_1359 : decode cL_law 1359 = .ok (.iconst 0, 1) := by decide +kernel
theorem dL_law_1360 : decode cL_law 1360 = .ok (.ireturn, 1) := by decide +kernel
theorem dL_law_1361 : decode cL_law 1361 = .ok (.aload_n 1, 1) := by decide +kernel
theorem dL_law_1362 : decode cL_law 1362 = .ok (.aload_n 0, 1) := by decide +kernel
theorem dL_law_1363 : decode cL_law 1363 = .ok (.iload_n 3, 1) := by decide +kernel
theorem dL_law_1364 : decode cL_law 1364 = .ok (.iconst 1, 1) := by decide +kernel
theorem dL_law_1365 : decode cL_law 1365 = .ok (.iadd, 1) := by decide +kernel
theorem dL_law_1366 : decode cL_law 1366 = .ok (.iaload, 1) := by decide +kernel
theorem dL_law_1367 : decode cL_law 1367 = .ok (.aload_n 0, 1) := by decide +kernel
theorem dL_law_1368 : decode cL_law 1368 = .ok (.iload_n 3, 1) := by decide +kernel
theorem dL_law_1369 : decode cL_law 1369 = .ok (.iconst 2, 1) := by decide +kernel
theorem dL_law_1370 : decode cL_law 1370 = .ok (.iadd, 1) := by decide +kernel
theorem dL_law_1371 : decode cL_law 1371 = .ok (.iaload, 1) := by decide +kernel
theorem dL_law_1372 : decode cL_law 1372 = .ok (.aload_n 0, 1) := by decide +kernel
theorem dL_law_1373 : decode cL_law 1373 = .ok (.iload_n 3, 1) := by decide +kernel
theorem dL_law_1374 : decode cL_law 1374 = .ok (.iconst 3, 1) := by decide +kernel
theorem dL_law_1375 : decode cL_law 1375 = .ok (.iadd, 1) := by decide +kernel
theorem dL_law_1376 : decode cL_law 1376 = .ok (.iaload, 1) := by decide +kernel
theorem dL_law_1377 : decode cL_law 1377 = .ok (.aload_n 0, 1) := by decide +kernel
theorem dL_law_1378 : decode cL_law 1378 = .ok (.iload_n 3, 1) := by decide +kernel
theorem dL_law_1379 : decode cL_law 1379 = .ok (.iconst 4, 1) := by decide +kernel
theorem dL_law_1380 : decode cL_law 1380 = .ok (.iadd, 1) := by decide +kernel
theorem dL_law_1381 : decode cL_law 1381 = .ok (.iaload, 1) := by decide +kernel
theorem dL_law_1382 : decode cL_law 1382 = .ok (.invokevirtual 167, 3) := by decide +kernel
theorem dL_law_1385 : decode cL_law 1385 = .ok (.aload_n 2, 1) := by decide +kernel
theorem dL_law_1386 : decode cL_law 1386 = .ok (.aload_n 0, 1) := by decide +kernel
theorem dL_law_1387 : decode cL_law 1387 = .ok (.iload_n 3, 1) := by decide +kernel
theorem dL_law_1388 : decode cL_law 1388 = .ok (.iconst 1, 1) := by decide +kernel
theorem dL_law_1389 : decode cL_law 1389 = .ok (.iadd, 1) := by decide +kernel
theorem dL_law_1390 : decode cL_law 1390 = .ok (.iaload, 1) := by decide +kernel
theorem dL_law_1391 : decode cL_law 1391 = .ok (.aload_n 0, 1) := by decide +kernel
theorem dL_law_1392 : decode cL_law 1392 = .ok (.iload_n 3, 1) := by decide +kernel
theorem dL_law_1393 : decode cL_law 1393 = .ok (.iconst 2, 1) := by decide +kernel
theorem dL_law_1394 : decode cL_law 1394 = .ok (.iadd, 1) := by decide +kernel
theorem dL_law_1395 : decode cL_law 1395 = .ok (.iaload, 1) := by decide +kernel
theorem dL_law_1396 : decode cL_law 1396 = .ok (.aload_n 0, 1) := by decide +kernel
theorem dL_law_1397 : decode cL_law 1397 = .ok (.iload_n 3, 1) := by decide +kernel
theorem dL_law_1398 : decode cL_law 1398 = .ok (.iconst 3, 1) := by decide +kernel
theorem dL_law_1399 : decode cL_law 1399 = .ok (.iadd, 1) := by decide +kernel
theorem dL_law_1400 : decode cL_law 1400 = .ok (.iaload, 1) := by decide +kernel
theorem dL_law_1401 : decode cL_law 1401 = .ok (.aload_n 0, 1) := by decide +kernel
theorem dL_law_1402 : decode cL_law 1402 = .ok (.iload_n 3, 1) := by decide +kernel
theorem dL_law_1403 : decode cL_law 1403 = .ok (.iconst 4, 1) := by decide +kernel
theorem dL_law_1404 : decode cL_law 1404 = .ok (.iadd, 1) := by decide +kernel
theorem dL_law_1405 : decode cL_law 1405 = .ok (.iaload, 1) := by decide +kernel
theorem dL_law_1406 : decode cL_law 1406 = .ok (.invokevirtual 171, 3) := by decide +kernel
theorem dL_law_1409 : decode cL_law 1409 = .ok (.if_icmp .eq 41, 3) := by decide +kernel
theorem dL_law_1412 : decode cL_law 1412 = .ok (.iconst 0, 1) := by decide +kernel
theorem dL_law_1413 : decode cL_law 1413 = .ok (.ireturn, 1) := by decide +kernel
theorem dL_law_1414 : decode cL_law 1414 = .ok (.aload_n 1, 1) := by decide +kernel
theorem dL_law_1415 : decode cL_law 1415 = .ok (.invokevirtual 172, 3) := by decide +kernel
theorem dL_law_1418 : decode cL_law 1418 = .ok (.aload_n 2, 1) := by decide +kernel
theorem dL_law_1419 : decode cL_law 1419 = .ok (.invokevirtual 175, 3) := by decide +kernel
theorem dL_law_1422 : decode cL_law 1422 = .ok (.if_icmp .eq 28, 3) := by decide +kernel
theorem dL_law_1425 : decode cL_law 1425 = .ok (.iconst 0, 1) := by decide +kernel
theorem dL_law_1426 : decode cL_law 1426 = .ok (.ireturn, 1) := by decide +kernel
theorem dL_law_1427 : decode cL_law 1427 = .ok (.aload_n 1, 1) := by decide +kernel
theorem dL_law_1428 : decode cL_law 1428 = .ok (.aload_n 0, 1) := by decide +kernel
theorem dL_law_1429 : decode cL_law 1429 = .ok (.iload_n 3, 1) := by decide +kernel
theorem dL_law_1430 : decode cL_law 1430 = .ok (.iconst 1, 1) := by decide +kernel
theorem dL_law_1431 : decode cL_law 1431 = .ok (.iadd, 1) := by decide +kernel
theorem dL_law_1432 : decode cL_law 1432 = .ok (.iaload, 1) := by decide +kernel
theorem dL_law_1433 : decode cL_law 1433 = .ok (.invokevirtual 176, 3) := by decide +kernel
theorem dL_law_1436 : decode cL_law 1436 = .ok (.aload_n 2, 1) := by decide +kernel
theorem dL_law_1437 : decode cL_law 1437 = .ok (.aload_n 0, 1) := by decide +kernel
theorem dL_law_1438 : decode cL_law 1438 = .ok (.iload_n 3, 1) := by decide +kernel
theorem dL_law_1439 : decode cL_law 1439 = .ok (.iconst 1, 1) := by decide +kernel
theorem dL_law_1440 : decode cL_law 1440 = .ok (.iadd, 1) := by decide +kernel
theorem dL_law_1441 : decode cL_law 1441 = .ok (.iaload, 1) := by decide +kernel
theorem dL_law_1442 : decode cL_law 1442 = .ok (.invokevirtual 179, 3) := by decide +kernel
theorem dL_law_1445 : decode cL_law 1445 = .ok (.if_icmp .eq 5, 3) := by decide +kernel
theorem dL_law_1448 : decode cL_law 1448 = .ok (.iconst 0, 1) := by decide +kernel
theorem dL_law_1449 : decode cL_law 1449 = .ok (.ireturn, 1) := by decide +kernel
theorem dL_law_1450 : decode cL_law 1450 = .ok (.iinc 3 5, 3) := by decide +kernel
theorem dL_law_1453 : decode cL_law 1453 = .ok (.goto (-1435), 3) := by decide +kernel
theorem dL_law_1456 : decode cL_law 1456 = .ok (.iconst 1, 1) := by decide +kernel
theorem dL_law_1457 : decode cL_law 1457 = .ok (.ireturn, 1) := by decide +kernel
end
section
/-! ===== the judgement: a method's body from a place on, over a heap that is a function of addresses ===== -/
abbrev gx_cl : List vw_C := [(RX0, TX0, 3), (RX1, TX1, 3), (RX2, TX2, 4), (RX3, TX3, 2), (RX4, TX4, 10), (RX5, TX5, 11), (RX6, TX6, 10), (RX7, TX7, 30)]
def gx_ws : List Cond := lw_tbl.filter goodWord
theorem gx_good {w : Cond} (h : w ∈ gx_ws) : (w.onTables && w.keeps) = true ∨ ∃ ty, w = .arrayClass ty := good_of_word (List.mem_filter.mp h).2
theorem gx_in {w : Cond} (h1 : w ∈ lw_tbl) (h2 : goodWord w = true) : w ∈ gx_ws := List.mem_filter.mpr ⟨h1, h2⟩
theorem gx_goodIn {y : MethodName} {cc : ByteArray} {n : Nat} {rt : Option FieldType} (h : Cond.code y cc n rt ∈ gx_ws) : GoodIn gx_ws (Cond.code y cc n rt :: gx_ws) := fun w hw => by
  rcases List.mem_cons.mp hw with rfl | hw
  · exact ⟨h, gx_good h⟩
  · exact ⟨hw, gx_good hw⟩
/-- size, cells by address -/
abbrev gx_Hp : Type := Nat × (Nat → Option va_E)
def gx_up (h : gx_Hp) (a : Nat) (c : va_E) : gx_Hp := (h.1, fun q => if q = a then some c else h.2 q)
def gx_push (h : gx_Hp) (c : va_E) : gx_Hp := (h.1 + 1, fun q => if q = h.1 then some c else h.2 q)
/-- classes and slots, array classes, the heap at the law's start, the String constants' cells -/
abbrev gx_G : Type := va_G × (Nat → ClassId) × Heap × (Nat → Nat) × (Nat → Nat)
abbrev gx_N (G : gx_G) : Nat := G.2.2.1.size
def gx_tys (G : gx_G) : List (ClassId × FieldType) := [(G.2.1 0, .int), (G.2.1 1, .byte), (G.2.1 2, .boolean), (G.2.1 3, .object RX5), (G.2.1 4, .object RX0), (G.2.1 5, .object RX1)]
def gx_txt : List (Nat × String) := [(145, "signer"), (147, "dancer"), (149, "shy"), (151, "fame"), (153, "route"), (154, "man"), (155, "bold")]
def gx_byt : List (List Int32) := [[115, 105, 103, 110, 101, 114], [100, 97, 110, 99, 101, 114], [115, 104, 121], [102, 97, 109, 101], [114, 111, 117, 116, 101], [109, 97, 110], [98, 111, 108, 100]]
def gx_nest : List (String × Nat × MethodName) := [(RX6, 9, yX5_init), (RX6, 18, yX2_init), (RX6, 32, yX3_init), (RX6, 58, yX0_init), (RX0, 9, yX5_init), (RX0, 18, yX2_init), (RX6, 59, yX1_init), (RX5, 71, yX6_farOf), (RX1, 32, yX6_isWithin)]
def gx_over : List String := [RX5, RX0, RX1]
def gx_I (G : gx_G) (U : State) : Prop := va_K G.1 gx_cl (gx_tys G) U ∧ va_Z "java/lang/String" "COMPACT_STRINGS" "Z" (.int 1) (fun q => gx_N G ≤ q) U G.2.2.1 ∧ vk_S 7 [6, 6, 3, 4, 5, 3, 4] gx_byt G.2.2.2.1 G.2.2.2.2 (fun q => gx_N G ≤ q) U G.2.2.1 ∧ (∀ i, i < 7 → vk_R RX4 (gx_txt.getD i (0, "")).1 (gx_txt.getD i (0, "")).2 (G.2.2.2.1 i) U) ∧ (∀ q ∈ gx_nest, va_Nw (.methodLinkNest q.1 q.2.1 q.2.2 RX6) U) ∧ ∀ C ∈ gx_over, va_AO C U
def gx_R (G : gx_G) (h : gx_Hp) (H : Heap) : Prop := H.size = h.1 ∧ gx_N G ≤ h.1 ∧ (∀ q, q < gx_N G → H[q]? = G.2.2.1[q]?) ∧ ∀ a c, h.2 a = some c → gx_N G ≤ a ∧ va_at G.1 gx_cl (a, c) H
/-- a method: its class, code, locals, answer's type, whether it makes an object -/
abbrev gx_M : Type := String × ByteArray × Nat × Option FieldType × Bool
def gx_At (G : gx_G) (M : gx_M) (d : Nat) (p : Program) (R : Room) (s : State) (m : MethodId) (args : Array Value) (meth : Method) (c : Code) : Prop :=
  p.tables.exec = Jvm.exec ∧ c.code = M.2.1 ∧ c.maxLocals = M.2.2.1 ∧ meth.sig.returnType = M.2.2.2.1 ∧ meth.locks = false ∧ s.vm.findClass M.1 = some m.cls ∧ (M.2.2.2.2 = true → meth.name = "<init>") ∧ (∀ w ∈ gx_ws, w.before args s = true) ∧ gx_I G s ∧ d ≤ R.frames ∧ 100 * d ≤ R.locals
def gx_Qc (G : gx_G) (Q : Option Value → gx_Hp → Prop) : Array Value → State → Outcome → State → Prop := fun _ _ o t => ∃ r h, o = .returned r ∧ Q r h ∧ gx_R G h t.heap
def gx_Pc (G : gx_G) (av : List Value) (h : gx_Hp) : Array Value → State → Prop := fun v U => v = av.toArray ∧ gx_I G U ∧ gx_R G h U.heap
def gx_J (G : gx_G) (M : gx_M) (d kc ks : Nat) (Q : Option Value → gx_Hp → Prop) (pc : Nat) (lv : List (Nat × Value)) (st : List Value) (h : gx_Hp) : Prop :=
  ∀ (p : Program) (l : Launch) (e : Env) (R : Room) (s : State) (m : MethodId) (args : Array Value) (below : List Frame) (meth : Method) (c : Code) (H : Heap) (locs : List Loc) (cells slots : Nat) (ls : Array Slot),
    gx_At G M d p R s m args meth c → gx_R G h H → (∀ q ∈ locs, gx_N G ≤ q.base) → lv_has ls M.2.2.1 lv → cells + kc ≤ R.cells → slots + ks ≤ R.slots →
    W p l e R s m args below meth c H locs cells slots (MQ below (gx_Qc G Q) args s R.cells R.slots (fun a => gx_N G ≤ a)) (F0 m pc ls st)
def gx_K (G : gx_G) (y : MethodName) (M : gx_M) (d mc ms : Nat) (av : List Value) (h : gx_Hp) (Q : Option Value → gx_Hp → Prop) : Prop :=
  ∀ (l : Launch) (rm : Room), rm.frames = d → rm.locals = 100 * d → rm.cells = mc → rm.slots = ms → Met l y (Cond.code y M.2.1 M.2.2.1 M.2.2.2.1 :: gx_ws) rm (gx_Pc G av h) (gx_Qc G Q) mc ms (fun a => gx_N G ≤ a)
def gl_get : List (Nat × Value) → Nat → Option Value
  | [], _ => none
  | q :: t, i => if q.1 = i then some q.2 else gl_get t i
theorem gl_get_mem {lv : List (Nat × Value)} {i : Nat} {v : Value} (h : gl_get lv i = some v) : (i, v) ∈ lv := by
  induction lv with
  | nil => cases h
  | cons q t ih =>
    unfold gl_get at h
    split at h
    · next hq => cases h; subst hq; exact List.mem_cons_self
    · exact List.mem_cons_of_mem _ (ih h)
def gl_ins (i : Nat) (v : Value) : List (Nat × Value) → List (Nat × Value)
  | [] => [(i, v)]
  | q :: t => if i < q.1 then (i, v) :: q :: t else q :: gl_ins i v t
theorem gl_ins_mem {i : Nat} {v : Value} {lv : List (Nat × Value)} {q : Nat × Value} (h : q ∈ gl_ins i v lv) : q ∈ (i, v) :: lv := by
  induction lv with
  | nil => exact h
  | cons x t ih =>
    unfold gl_ins at h
    split at h
    · exact h
    · rcases List.mem_cons.mp h with h | h
      · subst h; exact List.mem_cons_of_mem _ List.mem_cons_self
      · rcases List.mem_cons.mp (ih h) with h | h
        · rw [h]; exact List.mem_cons_self
        · exact List.mem_cons_of_mem _ (List.mem_cons_of_mem _ h)
def gl_put1 (i : Nat) (v : Value) (lv : List (Nat × Value)) : List (Nat × Value) := gl_ins i v (lv.filter (fun q => !(q.1 == i) && !(q.1 + 1 == i && q.2.category == 2)))
def gl_put2 (i : Nat) (v : Value) (lv : List (Nat × Value)) : List (Nat × Value) := gl_ins i v (lv.filter (fun q => !(q.1 == i) && (!(q.1 == i + 1) && !(q.1 + 1 == i && q.2.category == 2))))
theorem gl_sub {ls : Array Slot} {n : Nat} {lv lv' : List (Nat × Value)} (h : lv_has ls n lv) (hs : ∀ q ∈ lv', q ∈ lv) : lv_has ls n lv' := ⟨h.1, h.2.1, fun q hq => h.2.2 q (hs q hq)⟩
theorem gx_I.moved {G : gx_G} {u U : State} (hW : u.WarmedH U.vm) (h : gx_I G u) : gx_I G U :=
  ⟨va_K.moved hW.alike h.1, h.2.1.moved hW.alike, h.2.2.1.moved hW.alike, fun i hi => (h.2.2.2.1 i hi).warm hW, fun q hq => (h.2.2.2.2.1 q hq).warmM hW, fun C hC => (h.2.2.2.2.2 C hC).moved hW.alike⟩
theorem gx_I.same {G : gx_G} {u U : State} (hv : U.vm = u.vm) (h : gx_I G u) : gx_I G U :=
  ⟨va_K.moved (by rw [hv]; exact Vm.Alike.refl _) h.1, h.2.1.moved (by rw [hv]; exact Vm.Alike.refl _), h.2.2.1.moved (by rw [hv]; exact Vm.Alike.refl _), fun i hi => (h.2.2.2.1 i hi).same hv, fun q hq => (h.2.2.2.2.1 q hq).same rfl hv.symm, fun C hC => (h.2.2.2.2.2 C hC).moved (by rw [hv]; exact Vm.Alike.refl _)⟩
theorem gx_blind (G : gx_G) (av : List Value) (h : gx_Hp) : FrameBlind (gx_Pc G av h) := fun a U g mk q => by
  obtain ⟨q1, q2, q3⟩ := q
  exact ⟨q1, gx_I.same (u := U) (U := U.calling g mk a) rfl q2, q3⟩
theorem gx_R.put {G : gx_G} {h : gx_Hp} {H H1 : Heap} {a : Nat} {c : va_E} (hR : gx_R G h H) (ha : gx_N G ≤ a) (z : H1.size = H.size) (oq : ∀ q : Nat, q ≠ a → H1[q]? = H[q]?) (hc : va_at G.1 gx_cl (a, c) H1) : gx_R G (gx_up h a c) H1 := by
  obtain ⟨r1, r2, r3, r4⟩ := hR
  refine ⟨z.trans r1, r2, fun q hq => ?_, fun q x hx => ?_⟩
  · rw [oq q (by omega)]; exact r3 q hq
  · simp only [gx_up] at hx
    split at hx
    · next e => cases hx; subst e; exact ⟨ha, hc⟩
    · next e => exact ⟨(r4 q x hx).1, (r4 q x hx).2.kept (oq q e)⟩
theorem gx_R.push {G : gx_G} {h : gx_Hp} {H H1 : Heap} {c : va_E} (hR : gx_R G h H) (z : H1.size = H.size + 1) (oq : ∀ q : Nat, q < H.size → H1[q]? = H[q]?) (hc : va_at G.1 gx_cl (H.size, c) H1) : gx_R G (gx_push h c) H1 := by
  obtain ⟨r1, r2, r3, r4⟩ := hR
  refine ⟨by simp only [gx_push]; omega, by simp only [gx_push]; omega, fun q hq => ?_, fun q x hx => ?_⟩
  · rw [oq q (by omega)]; exact r3 q hq
  · simp only [gx_push] at hx
    split at hx
    · next e => cases hx; subst e; rw [← r1]; exact ⟨by omega, hc⟩
    · next e => exact ⟨(r4 q x hx).1, (r4 q x hx).2.kept (oq q ((r4 q x hx).2.lt))⟩
section GXJ
variable {G : gx_G} {M : gx_M} {d kc ks : Nat} {Q : Option Value → gx_Hp → Prop} {pc n : Nat} {lv : List (Nat × Value)} {rest : List Value} {h : gx_Hp}
theorem J_iconst {z : Int} {v : Int32} (hd : decode M.2.1 pc = .ok (.iconst z, 1)) (hv : Int32.ofInt z = v) (hn : pc + 1 = n) (k : gx_J G M d kc ks Q n lv (.int v :: rest) h) : gx_J G M d kc ks Q pc lv (rest) h := by
  subst hn
  intro p l e R s m args below meth c H locs cells slots ls A hR hL hl hc hs
  exact lv_iconst A.1 A.2.1 hd hv (k p l e R s m args below meth c H locs cells slots ls A hR hL hl hc hs)
theorem J_bipush {z : Int} {v : Int32} (hd : decode M.2.1 pc = .ok (.bipush z, 2)) (hv : (Int8.ofInt z).toInt32 = v) (hn : pc + 2 = n) (k : gx_J G M d kc ks Q n lv (.int v :: rest) h) : gx_J G M d kc ks Q pc lv (rest) h := by
  subst hn
  intro p l e R s m args below meth c H locs cells slots ls A hR hL hl hc hs
  exact lv_bipush A.1 A.2.1 hd hv (k p l e R s m args below meth c H locs cells slots ls A hR hL hl hc hs)
theorem J_sipush {z : Int} {v : Int32} (hd : decode M.2.1 pc = .ok (.sipush z, 3)) (hv : (Int16.ofInt z).toInt32 = v) (hn : pc + 3 = n) (k : gx_J G M d kc ks Q n lv (.int v :: rest) h) : gx_J G M d kc ks Q pc lv (rest) h := by
  subst hn
  intro p l e R s m args below meth c H locs cells slots ls A hR hL hl hc hs
  exact lv_sipush A.1 A.2.1 hd hv (k p l e R s m args below meth c H locs cells slots ls A hR hL hl hc hs)
theorem J_lconst {z : Fin 2} {v : Int64} (hd : decode M.2.1 pc = .ok (.lconst z, 1)) (hv : Int64.ofNat (z : Nat) = v) (hn : pc + 1 = n) (k : gx_J G M d kc ks Q n lv (.long v :: rest) h) : gx_J G M d kc ks Q pc lv (rest) h := by
  subst hn
  intro p l e R s m args below meth c H locs cells slots ls A hR hL hl hc hs
  exact lv_lconst A.1 A.2.1 hd hv (k p l e R s m args below meth c H locs cells slots ls A hR hL hl hc hs)
theorem J_iload_n {z : Fin 4} {i : Nat} {x : Int32} (hd : decode M.2.1 pc = .ok (.iload_n z, 1)) (hi : (z : Nat) = i) (hv : gl_get lv i = some (.int x)) (hn : pc + 1 = n) (k : gx_J G M d kc ks Q n lv (.int x :: rest) h) : gx_J G M d kc ks Q pc lv (rest) h := by
  subst hn
  intro p l e R s m args below meth c H locs cells slots ls A hR hL hl hc hs
  exact lv_iload_n A.1 A.2.1 hd hi (hl.2.2 _ (gl_get_mem hv)) (k p l e R s m args below meth c H locs cells slots ls A hR hL hl hc hs)
theorem J_iload {i : Nat} {x : Int32} (hd : decode M.2.1 pc = .ok (.iload i, 2)) (hv : gl_get lv i = some (.int x)) (hn : pc + 2 = n) (k : gx_J G M d kc ks Q n lv (.int x :: rest) h) : gx_J G M d kc ks Q pc lv (rest) h := by
  subst hn
  intro p l e R s m args below meth c H locs cells slots ls A hR hL hl hc hs
  exact lv_iload A.1 A.2.1 hd (hl.2.2 _ (gl_get_mem hv)) (k p l e R s m args below meth c H locs cells slots ls A hR hL hl hc hs)
theorem J_istore_n {z : Fin 4} {i : Nat} {x : Int32} {lv' : List (Nat × Value)} (hd : decode M.2.1 pc = .ok (.istore_n z, 1)) (hi : (z : Nat) = i) (hb : i < M.2.2.1) (hv : gl_put1 i (.int x) lv = lv') (hn : pc + 1 = n) (k : gx_J G M d kc ks Q n lv' rest h) : gx_J G M d kc ks Q pc lv (.int x :: rest) h := by
  subst hn
  intro p l e R s m args below meth c H locs cells slots ls A hR hL hl hc hs
  exact lv_istore_n A.1 A.2.1 hd hi hl hb rfl (fun ls2 hl2 => k p l e R s m args below meth c H locs cells slots ls2 A hR hL (gl_sub hl2 (fun q hq => gl_ins_mem (by rw [← hv] at hq; exact hq))) hc hs)
theorem J_istore {i : Nat} {x : Int32} {lv' : List (Nat × Value)} (hd : decode M.2.1 pc = .ok (.istore i, 2)) (hb : i < M.2.2.1) (hv : gl_put1 i (.int x) lv = lv') (hn : pc + 2 = n) (k : gx_J G M d kc ks Q n lv' rest h) : gx_J G M d kc ks Q pc lv (.int x :: rest) h := by
  subst hn
  intro p l e R s m args below meth c H locs cells slots ls A hR hL hl hc hs
  exact lv_istore A.1 A.2.1 hd hl hb rfl (fun ls2 hl2 => k p l e R s m args below meth c H locs cells slots ls2 A hR hL (gl_sub hl2 (fun q hq => gl_ins_mem (by rw [← hv] at hq; exact hq))) hc hs)
theorem J_lload_n {z : Fin 4} {i : Nat} {x : Int64} (hd : decode M.2.1 pc = .ok (.lload_n z, 1)) (hi : (z : Nat) = i) (hv : gl_get lv i = some (.long x)) (hn : pc + 1 = n) (k : gx_J G M d kc ks Q n lv (.long x :: rest) h) : gx_J G M d kc ks Q pc lv (rest) h := by
  subst hn
  intro p l e R s m args below meth c H locs cells slots ls A hR hL hl hc hs
  exact lv_lload_n A.1 A.2.1 hd hi (hl.2.2 _ (gl_get_mem hv)) (k p l e R s m args below meth c H locs cells slots ls A hR hL hl hc hs)
theorem J_lload {i : Nat} {x : Int64} (hd : decode M.2.1 pc = .ok (.lload i, 2)) (hv : gl_get lv i = some (.long x)) (hn : pc + 2 = n) (k : gx_J G M d kc ks Q n lv (.long x :: rest) h) : gx_J G M d kc ks Q pc lv (rest) h := by
  subst hn
  intro p l e R s m args below meth c H locs cells slots ls A hR hL hl hc hs
  exact lv_lload A.1 A.2.1 hd (hl.2.2 _ (gl_get_mem hv)) (k p l e R s m args below meth c H locs cells slots ls A hR hL hl hc hs)
theorem J_lstore_n {z : Fin 4} {i : Nat} {x : Int64} {lv' : List (Nat × Value)} (hd : decode M.2.1 pc = .ok (.lstore_n z, 1)) (hi : (z : Nat) = i) (hb : i + 1 < M.2.2.1) (hv : gl_put2 i (.long x) lv = lv') (hn : pc + 1 = n) (k : gx_J G M d kc ks Q n lv' rest h) : gx_J G M d kc ks Q pc lv (.long x :: rest) h := by
  subst hn
  intro p l e R s m args below meth c H locs cells slots ls A hR hL hl hc hs
  exact lv_lstore_n A.1 A.2.1 hd hi hl hb rfl (fun ls2 hl2 => k p l e R s m args below meth c H locs cells slots ls2 A hR hL (gl_sub hl2 (fun q hq => gl_ins_mem (by rw [← hv] at hq; exact hq))) hc hs)
theorem J_lstore {i : Nat} {x : Int64} {lv' : List (Nat × Value)} (hd : decode M.2.1 pc = .ok (.lstore i, 2)) (hb : i + 1 < M.2.2.1) (hv : gl_put2 i (.long x) lv = lv') (hn : pc + 2 = n) (k : gx_J G M d kc ks Q n lv' rest h) : gx_J G M d kc ks Q pc lv (.long x :: rest) h := by
  subst hn
  intro p l e R s m args below meth c H locs cells slots ls A hR hL hl hc hs
  exact lv_lstore A.1 A.2.1 hd hl hb rfl (fun ls2 hl2 => k p l e R s m args below meth c H locs cells slots ls2 A hR hL (gl_sub hl2 (fun q hq => gl_ins_mem (by rw [← hv] at hq; exact hq))) hc hs)
theorem J_aload_n {z : Fin 4} {i : Nat} {x : Nat} (hd : decode M.2.1 pc = .ok (.aload_n z, 1)) (hi : (z : Nat) = i) (hv : gl_get lv i = some (.ref x)) (hn : pc + 1 = n) (k : gx_J G M d kc ks Q n lv (.ref x :: rest) h) : gx_J G M d kc ks Q pc lv (rest) h := by
  subst hn
  intro p l e R s m args below meth c H locs cells slots ls A hR hL hl hc hs
  exact lv_aload_n A.1 A.2.1 hd hi (hl.2.2 _ (gl_get_mem hv)) (k p l e R s m args below meth c H locs cells slots ls A hR hL hl hc hs)
theorem J_aload {i : Nat} {x : Nat} (hd : decode M.2.1 pc = .ok (.aload i, 2)) (hv : gl_get lv i = some (.ref x)) (hn : pc + 2 = n) (k : gx_J G M d kc ks Q n lv (.ref x :: rest) h) : gx_J G M d kc ks Q pc lv (rest) h := by
  subst hn
  intro p l e R s m args below meth c H locs cells slots ls A hR hL hl hc hs
  exact lv_aload A.1 A.2.1 hd (hl.2.2 _ (gl_get_mem hv)) (k p l e R s m args below meth c H locs cells slots ls A hR hL hl hc hs)
theorem J_astore_n {z : Fin 4} {i : Nat} {x : Nat} {lv' : List (Nat × Value)} (hd : decode M.2.1 pc = .ok (.astore_n z, 1)) (hi : (z : Nat) = i) (hb : i < M.2.2.1) (hv : gl_put1 i (.ref x) lv = lv') (hn : pc + 1 = n) (k : gx_J G M d kc ks Q n lv' rest h) : gx_J G M d kc ks Q pc lv (.ref x :: rest) h := by
  subst hn
  intro p l e R s m args below meth c H locs cells slots ls A hR hL hl hc hs
  exact lv_astore_n A.1 A.2.1 hd hi hl hb rfl (fun ls2 hl2 => k p l e R s m args below meth c H locs cells slots ls2 A hR hL (gl_sub hl2 (fun q hq => gl_ins_mem (by rw [← hv] at hq; exact hq))) hc hs)
theorem J_astore {i : Nat} {x : Nat} {lv' : List (Nat × Value)} (hd : decode M.2.1 pc = .ok (.astore i, 2)) (hb : i < M.2.2.1) (hv : gl_put1 i (.ref x) lv = lv') (hn : pc + 2 = n) (k : gx_J G M d kc ks Q n lv' rest h) : gx_J G M d kc ks Q pc lv (.ref x :: rest) h := by
  subst hn
  intro p l e R s m args below meth c H locs cells slots ls A hR hL hl hc hs
  exact lv_astore A.1 A.2.1 hd hl hb rfl (fun ls2 hl2 => k p l e R s m args below meth c H locs cells slots ls2 A hR hL (gl_sub hl2 (fun q hq => gl_ins_mem (by rw [← hv] at hq; exact hq))) hc hs)
theorem J_iinc {i : Nat} {z : Int} {x v : Int32} {lv' : List (Nat × Value)} (hd : decode M.2.1 pc = .ok (.iinc i z, 3)) (hx : gl_get lv i = some (.int x)) (hz : x + Int32.ofInt z = v) (hb : i < M.2.2.1) (hv : gl_put1 i (.int v) lv = lv') (hn : pc + 3 = n) (k : gx_J G M d kc ks Q n lv' rest h) : gx_J G M d kc ks Q pc lv rest h := by
  subst hn
  intro p l e R s m args below meth c H locs cells slots ls A hR hL hl hc hs
  obtain ⟨j, hj⟩ := List.getElem?_of_mem (gl_get_mem hx)
  exact lv_iinc A.1 A.2.1 hd hl hj hz hb rfl (fun ls2 hl2 => k p l e R s m args below meth c H locs cells slots ls2 A hR hL (gl_sub hl2 (fun q hq => gl_ins_mem (by rw [← hv] at hq; exact hq))) hc hs)
theorem J_iadd {x y : Int32} (hd : decode M.2.1 pc = .ok (.iadd, 1)) (hn : pc + 1 = n) (k : gx_J G M d kc ks Q n lv (.int (x + y) :: rest) h) : gx_J G M d kc ks Q pc lv (.int y :: .int x :: rest) h := by
  subst hn
  intro p l e R s m args below meth c H locs cells slots ls A hR hL hl hc hs
  exact lv_iadd A.1 A.2.1 hd (k p l e R s m args below meth c H locs cells slots ls A hR hL hl hc hs)
theorem J_isub {x y : Int32} (hd : decode M.2.1 pc = .ok (.isub, 1)) (hn : pc + 1 = n) (k : gx_J G M d kc ks Q n lv (.int (x - y) :: rest) h) : gx_J G M d kc ks Q pc lv (.int y :: .int x :: rest) h := by
  subst hn
  intro p l e R s m args below meth c H locs cells slots ls A hR hL hl hc hs
  exact lv_isub A.1 A.2.1 hd (k p l e R s m args below meth c H locs cells slots ls A hR hL hl hc hs)
theorem J_imul {x y : Int32} (hd : decode M.2.1 pc = .ok (.imul, 1)) (hn : pc + 1 = n) (k : gx_J G M d kc ks Q n lv (.int (x * y) :: rest) h) : gx_J G M d kc ks Q pc lv (.int y :: .int x :: rest) h := by
  subst hn
  intro p l e R s m args below meth c H locs cells slots ls A hR hL hl hc hs
  exact lv_imul A.1 A.2.1 hd (k p l e R s m args below meth c H locs cells slots ls A hR hL hl hc hs)
theorem J_iand {x y : Int32} (hd : decode M.2.1 pc = .ok (.iand, 1)) (hn : pc + 1 = n) (k : gx_J G M d kc ks Q n lv (.int (x &&& y) :: rest) h) : gx_J G M d kc ks Q pc lv (.int y :: .int x :: rest) h := by
  subst hn
  intro p l e R s m args below meth c H locs cells slots ls A hR hL hl hc hs
  exact lv_iand A.1 A.2.1 hd (k p l e R s m args below meth c H locs cells slots ls A hR hL hl hc hs)
theorem J_ior {x y : Int32} (hd : decode M.2.1 pc = .ok (.ior, 1)) (hn : pc + 1 = n) (k : gx_J G M d kc ks Q n lv (.int (x ||| y) :: rest) h) : gx_J G M d kc ks Q pc lv (.int y :: .int x :: rest) h := by
  subst hn
  intro p l e R s m args below meth c H locs cells slots ls A hR hL hl hc hs
  exact lv_ior A.1 A.2.1 hd (k p l e R s m args below meth c H locs cells slots ls A hR hL hl hc hs)
theorem J_ixor {x y : Int32} (hd : decode M.2.1 pc = .ok (.ixor, 1)) (hn : pc + 1 = n) (k : gx_J G M d kc ks Q n lv (.int (x ^^^ y) :: rest) h) : gx_J G M d kc ks Q pc lv (.int y :: .int x :: rest) h := by
  subst hn
  intro p l e R s m args below meth c H locs cells slots ls A hR hL hl hc hs
  exact lv_ixor A.1 A.2.1 hd (k p l e R s m args below meth c H locs cells slots ls A hR hL hl hc hs)
theorem J_ishl {x y : Int32} (hd : decode M.2.1 pc = .ok (.ishl, 1)) (hn : pc + 1 = n) (k : gx_J G M d kc ks Q n lv (.int (x <<< (y &&& 31)) :: rest) h) : gx_J G M d kc ks Q pc lv (.int y :: .int x :: rest) h := by
  subst hn
  intro p l e R s m args below meth c H locs cells slots ls A hR hL hl hc hs
  exact lv_ishl A.1 A.2.1 hd (k p l e R s m args below meth c H locs cells slots ls A hR hL hl hc hs)
theorem J_ishr {x y : Int32} (hd : decode M.2.1 pc = .ok (.ishr, 1)) (hn : pc + 1 = n) (k : gx_J G M d kc ks Q n lv (.int (x >>> (y &&& 31)) :: rest) h) : gx_J G M d kc ks Q pc lv (.int y :: .int x :: rest) h := by
  subst hn
  intro p l e R s m args below meth c H locs cells slots ls A hR hL hl hc hs
  exact lv_ishr A.1 A.2.1 hd (k p l e R s m args below meth c H locs cells slots ls A hR hL hl hc hs)
theorem J_ladd {x y : Int64} (hd : decode M.2.1 pc = .ok (.ladd, 1)) (hn : pc + 1 = n) (k : gx_J G M d kc ks Q n lv (.long (x + y) :: rest) h) : gx_J G M d kc ks Q pc lv (.long y :: .long x :: rest) h := by
  subst hn
  intro p l e R s m args below meth c H locs cells slots ls A hR hL hl hc hs
  exact lv_ladd A.1 A.2.1 hd (k p l e R s m args below meth c H locs cells slots ls A hR hL hl hc hs)
theorem J_lsub {x y : Int64} (hd : decode M.2.1 pc = .ok (.lsub, 1)) (hn : pc + 1 = n) (k : gx_J G M d kc ks Q n lv (.long (x - y) :: rest) h) : gx_J G M d kc ks Q pc lv (.long y :: .long x :: rest) h := by
  subst hn
  intro p l e R s m args below meth c H locs cells slots ls A hR hL hl hc hs
  exact lv_lsub A.1 A.2.1 hd (k p l e R s m args below meth c H locs cells slots ls A hR hL hl hc hs)
theorem J_lmul {x y : Int64} (hd : decode M.2.1 pc = .ok (.lmul, 1)) (hn : pc + 1 = n) (k : gx_J G M d kc ks Q n lv (.long (x * y) :: rest) h) : gx_J G M d kc ks Q pc lv (.long y :: .long x :: rest) h := by
  subst hn
  intro p l e R s m args below meth c H locs cells slots ls A hR hL hl hc hs
  exact lv_lmul A.1 A.2.1 hd (k p l e R s m args below meth c H locs cells slots ls A hR hL hl hc hs)
theorem J_irem {x y : Int32} (hd : decode M.2.1 pc = .ok (.irem, 1)) (hy : ¬ y = 0) (hn : pc + 1 = n) (k : gx_J G M d kc ks Q n lv (.int (x - x / y * y) :: rest) h) : gx_J G M d kc ks Q pc lv (.int y :: .int x :: rest) h := by
  subst hn
  intro p l e R s m args below meth c H locs cells slots ls A hR hL hl hc hs
  exact lv_irem A.1 A.2.1 hd hy (k p l e R s m args below meth c H locs cells slots ls A hR hL hl hc hs)
theorem J_idiv {x y : Int32} (hd : decode M.2.1 pc = .ok (.idiv, 1)) (hy : ¬ y = 0) (hn : pc + 1 = n) (k : gx_J G M d kc ks Q n lv (.int (x / y) :: rest) h) : gx_J G M d kc ks Q pc lv (.int y :: .int x :: rest) h := by
  subst hn
  intro p l e R s m args below meth c H locs cells slots ls A hR hL hl hc hs
  exact lv_idiv A.1 A.2.1 hd hy (k p l e R s m args below meth c H locs cells slots ls A hR hL hl hc hs)
theorem J_ldiv {x y : Int64} (hd : decode M.2.1 pc = .ok (.ldiv, 1)) (hy : ¬ y = 0) (hn : pc + 1 = n) (k : gx_J G M d kc ks Q n lv (.long (x / y) :: rest) h) : gx_J G M d kc ks Q pc lv (.long y :: .long x :: rest) h := by
  subst hn
  intro p l e R s m args below meth c H locs cells slots ls A hR hL hl hc hs
  exact lv_ldiv A.1 A.2.1 hd hy (k p l e R s m args below meth c H locs cells slots ls A hR hL hl hc hs)
theorem J_lrem {x y : Int64} (hd : decode M.2.1 pc = .ok (.lrem, 1)) (hy : ¬ y = 0) (hn : pc + 1 = n) (k : gx_J G M d kc ks Q n lv (.long (x - x / y * y) :: rest) h) : gx_J G M d kc ks Q pc lv (.long y :: .long x :: rest) h := by
  subst hn
  intro p l e R s m args below meth c H locs cells slots ls A hR hL hl hc hs
  exact lv_lrem A.1 A.2.1 hd hy (k p l e R s m args below meth c H locs cells slots ls A hR hL hl hc hs)
theorem J_ineg {x : Int32} (hd : decode M.2.1 pc = .ok (.ineg, 1)) (hn : pc + 1 = n) (k : gx_J G M d kc ks Q n lv (.int (-x) :: rest) h) : gx_J G M d kc ks Q pc lv (.int x :: rest) h := by
  subst hn
  intro p l e R s m args below meth c H locs cells slots ls A hR hL hl hc hs
  exact lv_ineg A.1 A.2.1 hd (k p l e R s m args below meth c H locs cells slots ls A hR hL hl hc hs)
theorem J_i2l {x : Int32} (hd : decode M.2.1 pc = .ok (.i2l, 1)) (hn : pc + 1 = n) (k : gx_J G M d kc ks Q n lv (.long x.toInt64 :: rest) h) : gx_J G M d kc ks Q pc lv (.int x :: rest) h := by
  subst hn
  intro p l e R s m args below meth c H locs cells slots ls A hR hL hl hc hs
  exact lv_i2l A.1 A.2.1 hd rfl (k p l e R s m args below meth c H locs cells slots ls A hR hL hl hc hs)
theorem J_i2b {x : Int32} (hd : decode M.2.1 pc = .ok (.i2b, 1)) (hn : pc + 1 = n) (k : gx_J G M d kc ks Q n lv (.int x.toInt8.toInt32 :: rest) h) : gx_J G M d kc ks Q pc lv (.int x :: rest) h := by
  subst hn
  intro p l e R s m args below meth c H locs cells slots ls A hR hL hl hc hs
  exact lv_i2b A.1 A.2.1 hd rfl (k p l e R s m args below meth c H locs cells slots ls A hR hL hl hc hs)
theorem J_i2s {x : Int32} (hd : decode M.2.1 pc = .ok (.i2s, 1)) (hn : pc + 1 = n) (k : gx_J G M d kc ks Q n lv (.int x.toInt16.toInt32 :: rest) h) : gx_J G M d kc ks Q pc lv (.int x :: rest) h := by
  subst hn
  intro p l e R s m args below meth c H locs cells slots ls A hR hL hl hc hs
  exact lv_i2s A.1 A.2.1 hd rfl (k p l e R s m args below meth c H locs cells slots ls A hR hL hl hc hs)
theorem J_i2c {x : Int32} (hd : decode M.2.1 pc = .ok (.i2c, 1)) (hn : pc + 1 = n) (k : gx_J G M d kc ks Q n lv (.int (x.toUInt32 % 65536).toInt32 :: rest) h) : gx_J G M d kc ks Q pc lv (.int x :: rest) h := by
  subst hn
  intro p l e R s m args below meth c H locs cells slots ls A hR hL hl hc hs
  exact lv_i2c A.1 A.2.1 hd rfl (k p l e R s m args below meth c H locs cells slots ls A hR hL hl hc hs)
theorem J_iushr {x y : Int32} (hd : decode M.2.1 pc = .ok (.iushr, 1)) (hn : pc + 1 = n) (k : gx_J G M d kc ks Q n lv (.int (x.toUInt32 >>> (y.toUInt32 &&& Int32.toUInt32 31)).toInt32 :: rest) h) : gx_J G M d kc ks Q pc lv (.int y :: .int x :: rest) h := by
  subst hn
  intro p l e R s m args below meth c H locs cells slots ls A hR hL hl hc hs
  exact lv_iushr A.1 A.2.1 hd rfl (k p l e R s m args below meth c H locs cells slots ls A hR hL hl hc hs)
theorem J_lcmp {x y : Int64} (hd : decode M.2.1 pc = .ok (.lcmp, 1)) (hn : pc + 1 = n) (k : gx_J G M d kc ks Q n lv (.int (lg_cmp x y) :: rest) h) : gx_J G M d kc ks Q pc lv (.long y :: .long x :: rest) h := by
  subst hn
  intro p l e R s m args below meth c H locs cells slots ls A hR hL hl hc hs
  exact W.lcmp A.1 A.2.1 hd (k p l e R s m args below meth c H locs cells slots ls A hR hL hl hc hs)
theorem J_dup {va : Value} (hd : decode M.2.1 pc = .ok (.dup, 1)) (hva : va.category = 1) (hn : pc + 1 = n) (k : gx_J G M d kc ks Q n lv (va :: va :: rest) h) : gx_J G M d kc ks Q pc lv (va :: rest) h := by
  subst hn
  intro p l e R s m args below meth c H locs cells slots ls A hR hL hl hc hs
  exact lv_dup A.1 A.2.1 hd hva (k p l e R s m args below meth c H locs cells slots ls A hR hL hl hc hs)
theorem J_pop {va : Value} (hd : decode M.2.1 pc = .ok (.pop, 1)) (hva : va.category = 1) (hn : pc + 1 = n) (k : gx_J G M d kc ks Q n lv (rest) h) : gx_J G M d kc ks Q pc lv (va :: rest) h := by
  subst hn
  intro p l e R s m args below meth c H locs cells slots ls A hR hL hl hc hs
  exact lv_pop A.1 A.2.1 hd hva (k p l e R s m args below meth c H locs cells slots ls A hR hL hl hc hs)
theorem J_dup2 {va vb : Value} (hd : decode M.2.1 pc = .ok (.dup2, 1)) (hva : va.category = 1) (hvb : vb.category = 1) (hn : pc + 1 = n) (k : gx_J G M d kc ks Q n lv (va :: vb :: va :: vb :: rest) h) : gx_J G M d kc ks Q pc lv (va :: vb :: rest) h := by
  subst hn
  intro p l e R s m args below meth c H locs cells slots ls A hR hL hl hc hs
  exact lv_dup2_11 A.1 A.2.1 hd hva hvb (k p l e R s m args below meth c H locs cells slots ls A hR hL hl hc hs)
theorem J_dup_x1 {va vb : Value} (hd : decode M.2.1 pc = .ok (.dup_x1, 1)) (hva : va.category = 1) (hvb : vb.category = 1) (hn : pc + 1 = n) (k : gx_J G M d kc ks Q n lv (va :: vb :: va :: rest) h) : gx_J G M d kc ks Q pc lv (va :: vb :: rest) h := by
  subst hn
  intro p l e R s m args below meth c H locs cells slots ls A hR hL hl hc hs
  exact lv_dup_x1 A.1 A.2.1 hd hva hvb (k p l e R s m args below meth c H locs cells slots ls A hR hL hl hc hs)
theorem J_if_eq {x : Int32} {off : Int} {tgt : Nat} (hd : decode M.2.1 pc = .ok (.ifCond .eq off, 3)) (ht : (pc : Int) + off = (tgt : Int)) (hn : pc + 3 = n) (kt : x = 0 → gx_J G M d kc ks Q tgt lv rest h) (kf : ¬ x = 0 → gx_J G M d kc ks Q n lv rest h) : gx_J G M d kc ks Q pc lv (.int x :: rest) h := by
  subst hn
  intro p l e R s m args below meth c H locs cells slots ls A hR hL hl hc hs
  exact lv_if_eq A.1 A.2.1 hd ht (fun q => kt q p l e R s m args below meth c H locs cells slots ls A hR hL hl hc hs) (fun q => kf q p l e R s m args below meth c H locs cells slots ls A hR hL hl hc hs)
theorem J_icmp_eq {x y : Int32} {off : Int} {tgt : Nat} (hd : decode M.2.1 pc = .ok (.if_icmp .eq off, 3)) (ht : (pc : Int) + off = (tgt : Int)) (hn : pc + 3 = n) (kt : x = y → gx_J G M d kc ks Q tgt lv rest h) (kf : ¬ x = y → gx_J G M d kc ks Q n lv rest h) : gx_J G M d kc ks Q pc lv (.int y :: .int x :: rest) h := by
  subst hn
  intro p l e R s m args below meth c H locs cells slots ls A hR hL hl hc hs
  exact lv_icmp_eq A.1 A.2.1 hd ht (fun q => kt q p l e R s m args below meth c H locs cells slots ls A hR hL hl hc hs) (fun q => kf q p l e R s m args below meth c H locs cells slots ls A hR hL hl hc hs)
theorem J_if_ne {x : Int32} {off : Int} {tgt : Nat} (hd : decode M.2.1 pc = .ok (.ifCond .ne off, 3)) (ht : (pc : Int) + off = (tgt : Int)) (hn : pc + 3 = n) (kt : ¬ x = 0 → gx_J G M d kc ks Q tgt lv rest h) (kf : x = 0 → gx_J G M d kc ks Q n lv rest h) : gx_J G M d kc ks Q pc lv (.int x :: rest) h := by
  subst hn
  intro p l e R s m args below meth c H locs cells slots ls A hR hL hl hc hs
  exact lv_if_ne A.1 A.2.1 hd ht (fun q => kt q p l e R s m args below meth c H locs cells slots ls A hR hL hl hc hs) (fun q => kf q p l e R s m args below meth c H locs cells slots ls A hR hL hl hc hs)
theorem J_icmp_ne {x y : Int32} {off : Int} {tgt : Nat} (hd : decode M.2.1 pc = .ok (.if_icmp .ne off, 3)) (ht : (pc : Int) + off = (tgt : Int)) (hn : pc + 3 = n) (kt : ¬ x = y → gx_J G M d kc ks Q tgt lv rest h) (kf : x = y → gx_J G M d kc ks Q n lv rest h) : gx_J G M d kc ks Q pc lv (.int y :: .int x :: rest) h := by
  subst hn
  intro p l e R s m args below meth c H locs cells slots ls A hR hL hl hc hs
  exact lv_icmp_ne A.1 A.2.1 hd ht (fun q => kt q p l e R s m args below meth c H locs cells slots ls A hR hL hl hc hs) (fun q => kf q p l e R s m args below meth c H locs cells slots ls A hR hL hl hc hs)
theorem J_if_lt {x : Int32} {off : Int} {tgt : Nat} (hd : decode M.2.1 pc = .ok (.ifCond .lt off, 3)) (ht : (pc : Int) + off = (tgt : Int)) (hn : pc + 3 = n) (kt : x < 0 → gx_J G M d kc ks Q tgt lv rest h) (kf : ¬ x < 0 → gx_J G M d kc ks Q n lv rest h) : gx_J G M d kc ks Q pc lv (.int x :: rest) h := by
  subst hn
  intro p l e R s m args below meth c H locs cells slots ls A hR hL hl hc hs
  exact lv_if_lt A.1 A.2.1 hd ht (fun q => kt q p l e R s m args below meth c H locs cells slots ls A hR hL hl hc hs) (fun q => kf q p l e R s m args below meth c H locs cells slots ls A hR hL hl hc hs)
theorem J_icmp_lt {x y : Int32} {off : Int} {tgt : Nat} (hd : decode M.2.1 pc = .ok (.if_icmp .lt off, 3)) (ht : (pc : Int) + off = (tgt : Int)) (hn : pc + 3 = n) (kt : x < y → gx_J G M d kc ks Q tgt lv rest h) (kf : ¬ x < y → gx_J G M d kc ks Q n lv rest h) : gx_J G M d kc ks Q pc lv (.int y :: .int x :: rest) h := by
  subst hn
  intro p l e R s m args below meth c H locs cells slots ls A hR hL hl hc hs
  exact lv_icmp_lt A.1 A.2.1 hd ht (fun q => kt q p l e R s m args below meth c H locs cells slots ls A hR hL hl hc hs) (fun q => kf q p l e R s m args below meth c H locs cells slots ls A hR hL hl hc hs)
theorem J_if_ge {x : Int32} {off : Int} {tgt : Nat} (hd : decode M.2.1 pc = .ok (.ifCond .ge off, 3)) (ht : (pc : Int) + off = (tgt : Int)) (hn : pc + 3 = n) (kt : 0 ≤ x → gx_J G M d kc ks Q tgt lv rest h) (kf : ¬ 0 ≤ x → gx_J G M d kc ks Q n lv rest h) : gx_J G M d kc ks Q pc lv (.int x :: rest) h := by
  subst hn
  intro p l e R s m args below meth c H locs cells slots ls A hR hL hl hc hs
  exact lv_if_ge A.1 A.2.1 hd ht (fun q => kt q p l e R s m args below meth c H locs cells slots ls A hR hL hl hc hs) (fun q => kf q p l e R s m args below meth c H locs cells slots ls A hR hL hl hc hs)
theorem J_icmp_ge {x y : Int32} {off : Int} {tgt : Nat} (hd : decode M.2.1 pc = .ok (.if_icmp .ge off, 3)) (ht : (pc : Int) + off = (tgt : Int)) (hn : pc + 3 = n) (kt : y ≤ x → gx_J G M d kc ks Q tgt lv rest h) (kf : ¬ y ≤ x → gx_J G M d kc ks Q n lv rest h) : gx_J G M d kc ks Q pc lv (.int y :: .int x :: rest) h := by
  subst hn
  intro p l e R s m args below meth c H locs cells slots ls A hR hL hl hc hs
  exact lv_icmp_ge A.1 A.2.1 hd ht (fun q => kt q p l e R s m args below meth c H locs cells slots ls A hR hL hl hc hs) (fun q => kf q p l e R s m args below meth c H locs cells slots ls A hR hL hl hc hs)
theorem J_if_gt {x : Int32} {off : Int} {tgt : Nat} (hd : decode M.2.1 pc = .ok (.ifCond .gt off, 3)) (ht : (pc : Int) + off = (tgt : Int)) (hn : pc + 3 = n) (kt : 0 < x → gx_J G M d kc ks Q tgt lv rest h) (kf : ¬ 0 < x → gx_J G M d kc ks Q n lv rest h) : gx_J G M d kc ks Q pc lv (.int x :: rest) h := by
  subst hn
  intro p l e R s m args below meth c H locs cells slots ls A hR hL hl hc hs
  exact lv_if_gt A.1 A.2.1 hd ht (fun q => kt q p l e R s m args below meth c H locs cells slots ls A hR hL hl hc hs) (fun q => kf q p l e R s m args below meth c H locs cells slots ls A hR hL hl hc hs)
theorem J_icmp_gt {x y : Int32} {off : Int} {tgt : Nat} (hd : decode M.2.1 pc = .ok (.if_icmp .gt off, 3)) (ht : (pc : Int) + off = (tgt : Int)) (hn : pc + 3 = n) (kt : y < x → gx_J G M d kc ks Q tgt lv rest h) (kf : ¬ y < x → gx_J G M d kc ks Q n lv rest h) : gx_J G M d kc ks Q pc lv (.int y :: .int x :: rest) h := by
  subst hn
  intro p l e R s m args below meth c H locs cells slots ls A hR hL hl hc hs
  exact lv_icmp_gt A.1 A.2.1 hd ht (fun q => kt q p l e R s m args below meth c H locs cells slots ls A hR hL hl hc hs) (fun q => kf q p l e R s m args below meth c H locs cells slots ls A hR hL hl hc hs)
theorem J_if_le {x : Int32} {off : Int} {tgt : Nat} (hd : decode M.2.1 pc = .ok (.ifCond .le off, 3)) (ht : (pc : Int) + off = (tgt : Int)) (hn : pc + 3 = n) (kt : x ≤ 0 → gx_J G M d kc ks Q tgt lv rest h) (kf : ¬ x ≤ 0 → gx_J G M d kc ks Q n lv rest h) : gx_J G M d kc ks Q pc lv (.int x :: rest) h := by
  subst hn
  intro p l e R s m args below meth c H locs cells slots ls A hR hL hl hc hs
  exact lv_if_le A.1 A.2.1 hd ht (fun q => kt q p l e R s m args below meth c H locs cells slots ls A hR hL hl hc hs) (fun q => kf q p l e R s m args below meth c H locs cells slots ls A hR hL hl hc hs)
theorem J_icmp_le {x y : Int32} {off : Int} {tgt : Nat} (hd : decode M.2.1 pc = .ok (.if_icmp .le off, 3)) (ht : (pc : Int) + off = (tgt : Int)) (hn : pc + 3 = n) (kt : x ≤ y → gx_J G M d kc ks Q tgt lv rest h) (kf : ¬ x ≤ y → gx_J G M d kc ks Q n lv rest h) : gx_J G M d kc ks Q pc lv (.int y :: .int x :: rest) h := by
  subst hn
  intro p l e R s m args below meth c H locs cells slots ls A hR hL hl hc hs
  exact lv_icmp_le A.1 A.2.1 hd ht (fun q => kt q p l e R s m args below meth c H locs cells slots ls A hR hL hl hc hs) (fun q => kf q p l e R s m args below meth c H locs cells slots ls A hR hL hl hc hs)
theorem J_goto {off : Int} {tgt : Nat} (hd : decode M.2.1 pc = .ok (.goto off, 3)) (ht : (pc : Int) + off = (tgt : Int)) (k : gx_J G M d kc ks Q tgt lv rest h) : gx_J G M d kc ks Q pc lv rest h := by
  intro p l e R s m args below meth c H locs cells slots ls A hR hL hl hc hs
  exact lv_goto A.1 A.2.1 hd ht (k p l e R s m args below meth c H locs cells slots ls A hR hL hl hc hs)
theorem J_lookup {dflt : Int} {ps : Array (Int × Int)} {len : Nat} {x : Int32} {off : Int} {tgt : Nat} (hd : decode M.2.1 pc = .ok (.lookupswitch dflt ps, len)) (hp : (ps.toList.zip (ps.toList.drop 1)).all (fun (a, next) => a.1 < next.1) = true) (ho : Op.lookupswitch.offset ps.toList dflt x.toInt = off) (ht : (pc : Int) + off = (tgt : Int)) (k : gx_J G M d kc ks Q tgt lv rest h) : gx_J G M d kc ks Q pc lv (.int x :: rest) h := by
  intro p l e R s m args below meth c H locs cells slots ls A hR hL hl hc hs
  exact lv_lookup A.1 A.2.1 hd hp ho ht (k p l e R s m args below meth c H locs cells slots ls A hR hL hl hc hs)
theorem J_tableOut {dflt lo hi : Int} {offs : Array Int} {len : Nat} {x : Int32} {tgt : Nat} (hd : decode M.2.1 pc = .ok (.tableswitch dflt lo hi offs, len)) (hx : x.toInt < lo ∨ hi < x.toInt) (ht : (pc : Int) + dflt = (tgt : Int)) (k : gx_J G M d kc ks Q tgt lv rest h) : gx_J G M d kc ks Q pc lv (.int x :: rest) h := by
  intro p l e R s m args below meth c H locs cells slots ls A hR hL hl hc hs
  exact lv_tableOut A.1 A.2.1 hd hx ht (k p l e R s m args below meth c H locs cells slots ls A hR hL hl hc hs)
theorem J_tableIn {dflt lo hi : Int} {offs : Array Int} {len : Nat} {x : Int32} {off : Int} {tgt : Nat} (hd : decode M.2.1 pc = .ok (.tableswitch dflt lo hi offs, len)) (h1 : ¬ x.toInt < lo) (h2 : ¬ hi < x.toInt) (ho : offs[(x.toInt - lo).toNat]? = some off) (ht : (pc : Int) + off = (tgt : Int)) (k : gx_J G M d kc ks Q tgt lv rest h) : gx_J G M d kc ks Q pc lv (.int x :: rest) h := by
  intro p l e R s m args below meth c H locs cells slots ls A hR hL hl hc hs
  exact lv_tableIn A.1 A.2.1 hd h1 h2 ho ht (k p l e R s m args below meth c H locs cells slots ls A hR hL hl hc hs)
theorem J_ldc {index : Nat} {v : Int32} (hd : decode M.2.1 pc = .ok (.ldc index, 2)) (hw : Cond.constant M.1 index v ∈ gx_ws) (hn : pc + 2 = n) (k : gx_J G M d kc ks Q n lv (.int v :: rest) h) : gx_J G M d kc ks Q pc lv rest h := by
  subst hn
  intro p l e R s m args below meth c H locs cells slots ls A hR hL hl hc hs
  exact lv_ldc A.1 A.2.1 A.2.2.2.2.2.1 (A.2.2.2.2.2.2.2.1 _ hw) hd (k p l e R s m args below meth c H locs cells slots ls A hR hL hl hc hs)
theorem J_ldcw {index : Nat} {v : Int32} (hd : decode M.2.1 pc = .ok (.ldc_w index, 3)) (hw : Cond.constant M.1 index v ∈ gx_ws) (hn : pc + 3 = n) (k : gx_J G M d kc ks Q n lv (.int v :: rest) h) : gx_J G M d kc ks Q pc lv rest h := by
  subst hn
  intro p l e R s m args below meth c H locs cells slots ls A hR hL hl hc hs
  exact lv_ldcw A.1 A.2.1 A.2.2.2.2.2.1 (A.2.2.2.2.2.2.2.1 _ hw) hd (k p l e R s m args below meth c H locs cells slots ls A hR hL hl hc hs)
theorem J_ldc2 {index : Nat} {v : Int64} (hd : decode M.2.1 pc = .ok (.ldc2_w index, 3)) (hw : Cond.constantLong M.1 index v ∈ gx_ws) (hn : pc + 3 = n) (k : gx_J G M d kc ks Q n lv (.long v :: rest) h) : gx_J G M d kc ks Q pc lv rest h := by
  subst hn
  intro p l e R s m args below meth c H locs cells slots ls A hR hL hl hc hs
  exact lv_ldc2 A.1 A.2.1 A.2.2.2.2.2.1 (A.2.2.2.2.2.2.2.1 _ hw) hd (k p l e R s m args below meth c H locs cells slots ls A hR hL hl hc hs)
/-! returns -/
theorem J_iret {v : Int32} {ty : FieldType} (hd : decode M.2.1 pc = .ok (.ireturn, 1)) (hr : M.2.2.2.1 = some ty) (hv : narrow ty (.int v) = .int v) (hq : Q (some (.int v)) h) : gx_J G M d kc ks Q pc lv [.int v] h := by
  intro p l e R s m args below meth c H locs cells slots ls A hR hL hl hc hs
  have hlk : meth.locks = false := A.2.2.2.2.1
  refine W.widen (k := R.cells) (n := R.slots) (by omega) (by omega) ?_
  exact W.zret A.1 A.2.1 (A.2.2.2.1.trans hr) hv (fun t ht _ => ⟨_, h, rfl, hq, by rw [ht]; exact hR⟩) hL hd
theorem J_lret {v : Int64} (hd : decode M.2.1 pc = .ok (.lreturn, 1)) (hr : M.2.2.2.1 = some .long) (hq : Q (some (.long v)) h) : gx_J G M d kc ks Q pc lv [.long v] h := by
  intro p l e R s m args below meth c H locs cells slots ls A hR hL hl hc hs
  have hlk : meth.locks = false := A.2.2.2.2.1
  refine W.widen (k := R.cells) (n := R.slots) (by omega) (by omega) ?_
  exact W.lret A.1 A.2.1 (A.2.2.2.1.trans hr) (fun t ht _ => ⟨_, h, rfl, hq, by rw [ht]; exact hR⟩) hL hd
theorem J_aret {a : Nat} {rt : FieldType} (hd : decode M.2.1 pc = .ok (.areturn, 1)) (hr : M.2.2.2.1 = some rt) (hrt : (∃ n, rt = .object n) ∨ ∃ t, rt = .array t) (hq : Q (some (.ref a)) h) : gx_J G M d kc ks Q pc lv [.ref a] h := by
  intro p l e R s m args below meth c H locs cells slots ls A hR hL hl hc hs
  have hlk : meth.locks = false := A.2.2.2.2.1
  refine W.widen (k := R.cells) (n := R.slots) (by omega) (by omega) ?_
  exact W.aret A.1 A.2.1 (A.2.2.2.1.trans hr) hrt (Or.inr ⟨_, rfl⟩) (fun t ht _ => ⟨_, h, rfl, hq, by rw [ht]; exact hR⟩) hL hd
theorem J_vret (hd : decode M.2.1 pc = .ok (.return_, 1)) (hr : M.2.2.2.1 = none) (hq : Q none h) : gx_J G M d kc ks Q pc lv [] h := by
  intro p l e R s m args below meth c H locs cells slots ls A hR hL hl hc hs
  have hlk : meth.locks = false := A.2.2.2.2.1
  refine W.widen (k := R.cells) (n := R.slots) (by omega) (by omega) ?_
  exact W.vret A.1 A.2.1 (A.2.2.2.1.trans hr) (fun t ht _ => ⟨_, h, rfl, hq, by rw [ht]; exact hR⟩) hL hd
/-! fields and arrays -/
theorem gx_one {G : gx_G} {h : gx_Hp} {H : Heap} {a : Nat} {x : va_E} (hR : gx_R G h H) (ha : h.2 a = some x) : va_P G.1 gx_cl [(a, x)] H := fun k q hq => by
  rcases k with _ | k
  · cases hq; exact (hR.2.2.2 a x ha).2
  · cases hq
/-- what a class' rows of the tables say: of each class of gx_cl -/
def gx_clOk (ci : Nat) (C : String) (T : u_T) (N : Nat) (ty : Nat → FieldType) : Prop := gx_cl[ci]? = some (C, T, N) ∧ (∀ w ∈ u_ws C T N, w ∈ gx_ws) ∧ (∀ k, k < N → parseFieldDescriptor (T k).2.2.1 = some (ty k)) ∧ ∀ a, a < N → ∀ b, b < N → a ≠ b → (T a).2.1 ≠ (T b).2.1
theorem J_get {ci : Nat} {C : String} {T : u_T} {N : Nat} {ty : Nat → FieldType} (hcl : gx_clOk ci C T N ty) {index kk : Nat} {a : Nat} {fs : List Value} {v : Value} (hd : decode M.2.1 pc = .ok (.getfield index, 3)) (hw : Cond.fieldLink M.1 index (T kk).1 (T kk).2.1 (T kk).2.2.1 ∈ gx_ws) (hk : kk < N) (ha : h.2 a = some (.inr (ci, fs))) (hv : fs[kk]? = some v) (hn : pc + 3 = n) (k : gx_J G M d kc ks Q n lv (v :: rest) h) : gx_J G M d kc ks Q pc lv (.ref a :: rest) h := by
  subst hn
  intro p l e R s m args below meth c H locs cells slots ls A hR hL hl hc hs
  exact va_get A.1 A.2.1 A.2.2.2.2.2.2.2.1 hcl.2.1 A.2.2.2.2.2.1 A.2.2.2.2.2.2.2.2.1.1 (gx_one hR ha) 0 rfl hcl.1 kk hk (A.2.2.2.2.2.2.2.1 _ hw) (fun _ hx => hx) hv hd (k p l e R s m args below meth c H locs cells slots ls A hR hL hl hc hs)
theorem gx_locs {locs : List Loc} {N : Nat} {a k : Nat} (hL : ∀ q ∈ locs, N ≤ q.base) (ha : N ≤ a) : ∀ q ∈ locs ++ [⟨a, k⟩], N ≤ q.base := fun q hq => by
  rcases List.mem_append.mp hq with hq | hq
  · exact hL q hq
  · rw [List.mem_singleton.mp hq]; exact ha
theorem J_put {ci : Nat} {C : String} {T : u_T} {N : Nat} {ty : Nat → FieldType} (hcl : gx_clOk ci C T N ty) {index kk : Nat} {a : Nat} {fs : List Value} {v : Value} (hd : decode M.2.1 pc = .ok (.putfield index, 3)) (hw : Cond.fieldLink M.1 index (T kk).1 (T kk).2.1 (T kk).2.2.1 ∈ gx_ws) (hk : kk < N) (ha : h.2 a = some (.inr (ci, fs))) (hfin : (T kk).2.2.2 = false ∨ ((T kk).2.2.2 = true ∧ M.2.2.2.2 = true ∧ (T kk).1 = M.1)) (hnar : narrow (ty kk) v = v) (hfit : fits (ty kk) v = true) (hlen : kk < fs.length) (hn : pc + 3 = n) (k : gx_J G M d kc ks Q n lv rest (gx_up h a (.inr (ci, fs.set kk v)))) : gx_J G M d kc ks Q pc lv (v :: .ref a :: rest) h := by
  subst hn
  intro p l e R s m args below meth c H locs cells slots ls A hR hL hl hcc hs
  have hts := A.2.2.2.2.2.2.2.1
  have hown := A.2.2.2.2.2.1
  have hK := A.2.2.2.2.2.2.2.2.1.1
  obtain ⟨hc, hin, hty, hnm⟩ := hcl
  have hap := va_apart (own := C) (T := T) (N := N) (ci := ci) hts hin ty hty hnm hK hc
  obtain ⟨haN, r, h1, cell, q1, q2, q3, q4⟩ := hR.2.2.2 a _ ha
  have hr : r = (C, T, N) := Option.some.inj (h1.symm.trans hc)
  subst hr
  obtain ⟨hS, hfc, kC, hkC, hkind⟩ := hK.1 ci _ hc
  obtain ⟨cf, kf, fi, f, hi, hsl⟩ := hS kk hk
  have hst := (u_facts hfc hkC (u_lays hts hin hk) hi).1
  have fin : ∀ H' : Heap, H'[a]? = some (cell.setSlot f.slot v) → H'.size = H.size → (∀ q, q ≠ a → H'[q]? = H[q]?) → W p l e R s m args below meth c H' (locs ++ [⟨a, f.slot⟩]) cells slots (MQ below (gx_Qc G Q) args s R.cells R.slots (fun a => gx_N G ≤ a)) (F0 m (pc + 3) ls rest) := by
    intro H' e1 e2 e3
    rw [hsl] at e1
    exact k p l e R s m args below meth c H' (locs ++ [⟨a, f.slot⟩]) cells slots ls A (hR.put haN e2 e3 ⟨_, hc, t_OB.to (V := updV (vp_V fs) kk v) ⟨_, e1, q2, q3, t_set q4 hap hk v⟩ (fun j _ => vp_updV_set hlen v j)⟩) (gx_locs hL haN) hl hcc hs
  have hlay := hts _ (hin _ (u_in_lay hk))
  unfold u_lay at hlay
  rcases hfin with hfin | ⟨hfin, hini, hdecl⟩
  · rw [if_neg (by rw [hfin]; decide)] at hlay
    have h6 := u_store hfc hkC hkind hlay hi (hty kk hk) hnar hfit
    exact W.putK A.1 A.2.1 (f := f) ⟨hown, hts _ hw, ⟨_, _, _, hi⟩, hst⟩ (by rw [q2]; exact h6) q1 q3 (by rw [hsl]; exact k2_hasslot (q4 kk hk)) rfl rfl hd fin
  · rw [if_pos hfin] at hlay
    have hcf : m.cls = cf := by
      obtain ⟨_, _, c', _, _, _, -, -, hf', -, -, -, hown2, -⟩ := Cond.laysFinal_spec hlay
      have e1 : c' = cf := by have := hi.symm.trans hf'; simp at this; exact this.1.symm
      rw [hdecl] at hown2
      rw [← e1]; exact Option.some.inj (hown.symm.trans hown2)
    have h6 := u_fits hfc hkC hkind (Or.inr hlay) hi (hty kk hk) hnar hfit
    exact W.putFinK A.1 A.2.1 hown (hts _ hw) hi hst hcf (A.2.2.2.2.2.2.1 hini) (by rw [q2]; exact h6) q1 q3 (by rw [hsl]; exact k2_hasslot (q4 kk hk)) rfl rfl hd fin
theorem J_iald {a N : Nat} {f : Nat → Int32} {i : Int32} (hd : decode M.2.1 pc = .ok (.iaload, 1)) (ha : h.2 a = some (.inl (G.2.1 0, N, .inl f))) (hin : vp_in i N) (hn : pc + 1 = n) (k : gx_J G M d kc ks Q n lv (.int (f i.toNatClampNeg) :: rest) h) : gx_J G M d kc ks Q pc lv (.int i :: .ref a :: rest) h := by
  subst hn
  intro p l e R s m args below meth c H locs cells slots ls A hR hL hl hc hs
  exact va_iald A.1 A.2.1 A.2.2.2.2.2.2.2.2.1.1 (gx_one hR ha) 0 0 rfl rfl hin hd (k p l e R s m args below meth c H locs cells slots ls A hR hL hl hc hs)
theorem J_bald {a N : Nat} {f : Nat → Int32} {i : Int32} (hd : decode M.2.1 pc = .ok (.baload, 1)) (ha : h.2 a = some (.inl (G.2.1 1, N, .inl f))) (hin : vp_in i N) (hn : pc + 1 = n) (k : gx_J G M d kc ks Q n lv (.int (f i.toNatClampNeg) :: rest) h) : gx_J G M d kc ks Q pc lv (.int i :: .ref a :: rest) h := by
  subst hn
  intro p l e R s m args below meth c H locs cells slots ls A hR hL hl hc hs
  exact va_bald A.1 A.2.1 A.2.2.2.2.2.2.2.2.1.1 (gx_one hR ha) 0 1 rfl rfl hin hd (k p l e R s m args below meth c H locs cells slots ls A hR hL hl hc hs)
theorem J_zald {a N : Nat} {f : Nat → Int32} {i : Int32} (hd : decode M.2.1 pc = .ok (.baload, 1)) (ha : h.2 a = some (.inl (G.2.1 2, N, .inl f))) (hin : vp_in i N) (hn : pc + 1 = n) (k : gx_J G M d kc ks Q n lv (.int (f i.toNatClampNeg) :: rest) h) : gx_J G M d kc ks Q pc lv (.int i :: .ref a :: rest) h := by
  subst hn
  intro p l e R s m args below meth c H locs cells slots ls A hR hL hl hc hs
  exact va_zald A.1 A.2.1 A.2.2.2.2.2.2.2.2.1.1 (gx_one hR ha) 0 2 rfl rfl hin hd (k p l e R s m args below meth c H locs cells slots ls A hR hL hl hc hs)
theorem J_alen {a t : Nat} {x : vp_A} {v : Int32} {ty : FieldType} (hd : decode M.2.1 pc = .ok (.arraylength, 1)) {cA : ClassId} (ha : h.2 a = some (.inl (cA, x))) (ht : (gx_tys G)[t]? = some (cA, ty)) (hv : Int32.ofNat x.1 = v) (hn : pc + 1 = n) (k : gx_J G M d kc ks Q n lv (.int v :: rest) h) : gx_J G M d kc ks Q pc lv (.ref a :: rest) h := by
  subst hn
  intro p l e R s m args below meth c H locs cells slots ls A hR hL hl hc hs
  exact va_alen A.1 A.2.1 A.2.2.2.2.2.2.2.2.1.1 (gx_one hR ha) 0 t rfl ht hv hd (k p l e R s m args below meth c H locs cells slots ls A hR hL hl hc hs)
theorem J_aald {a N t : Nat} {C : String} {f : Nat → Option Nat} {i : Int32} {b : Nat} (hd : decode M.2.1 pc = .ok (.aaload, 1)) {cA : ClassId} (ha : h.2 a = some (.inl (cA, N, .inr (.inr (.inr (.inr f)))))) (ht : (gx_tys G)[t]? = some (cA, .object C)) (hin : vp_in i N) (hb : f i.toNatClampNeg = some b) (hn : pc + 1 = n) (k : gx_J G M d kc ks Q n lv (.ref b :: rest) h) : gx_J G M d kc ks Q pc lv (.int i :: .ref a :: rest) h := by
  subst hn
  intro p l e R s m args below meth c H locs cells slots ls A hR hL hl hc hs
  refine va_aldq A.1 A.2.1 A.2.2.2.2.2.2.2.2.1.1 (gx_one hR ha) 0 t rfl ht hin hd ?_
  rw [hb]
  exact k p l e R s m args below meth c H locs cells slots ls A hR hL hl hc hs
theorem gx_cell_i (cA : ClassId) (N : Nat) (f : Nat → Int32) (j : Nat) (x : Int32) : (vp_cell cA (N, .inl f)).setSlot j (.int x) = vp_cell cA (N, .inl (upd f j x)) := by
  rw [vp_cell_i, vp_cell_i, arrV_store]
  congr 2
  funext q
  by_cases hq : q = j
  · subst hq; simp [updV, upd]
  · simp [updV, upd, hq]
theorem gx_arr_in {cA : ClassId} {N : Nat} {f : Nat → Int32} {i : Int32} (hin : vp_in i N) : ¬ (i < 0 ∨ (vp_cell cA (N, .inl f)).slots.size ≤ i.toNatClampNeg) := by
  show ¬ (i < 0 ∨ (arrV _ _ _).slots.size ≤ _)
  rw [arrV_size]
  exact hin
theorem J_iast {a N : Nat} {f : Nat → Int32} {i x : Int32} (hd : decode M.2.1 pc = .ok (.iastore, 1)) (ha : h.2 a = some (.inl (G.2.1 0, N, .inl f))) (hin : vp_in i N) (hn : pc + 1 = n) (k : gx_J G M d kc ks Q n lv rest (gx_up h a (.inl (G.2.1 0, N, .inl (upd f i.toNatClampNeg x))))) : gx_J G M d kc ks Q pc lv (.int x :: .int i :: .ref a :: rest) h := by
  subst hn
  intro p l e R s m args below meth c H locs cells slots ls A hR hL hl hc hs
  have hK := A.2.2.2.2.2.2.2.2.1.1
  obtain ⟨haN, hcell⟩ := hR.2.2.2 a _ ha
  refine W.iast A.1 A.2.1 hcell ((hK.2 0 _ rfl).1 N (fun j => .int (f j))) (fun q => by cases q) (gx_arr_in hin) rfl rfl hd fun H1 e1 z oq => ?_
  exact k p l e R s m args below meth c H1 _ cells slots ls A (hR.put haN z oq (by show H1[a]? = some _; rw [e1, gx_cell_i])) (gx_locs hL haN) hl hc hs
theorem J_bast {a N : Nat} {f : Nat → Int32} {i x : Int32} (hd : decode M.2.1 pc = .ok (.bastore, 1)) (ha : h.2 a = some (.inl (G.2.1 1, N, .inl f))) (hin : vp_in i N) (hn : pc + 1 = n) (k : gx_J G M d kc ks Q n lv rest (gx_up h a (.inl (G.2.1 1, N, .inl (upd f i.toNatClampNeg x.toInt8.toInt32))))) : gx_J G M d kc ks Q pc lv (.int x :: .int i :: .ref a :: rest) h := by
  subst hn
  intro p l e R s m args below meth c H locs cells slots ls A hR hL hl hc hs
  have hK := A.2.2.2.2.2.2.2.2.1.1
  obtain ⟨haN, hcell⟩ := hR.2.2.2 a _ ha
  refine W.bast A.1 A.2.1 hcell ((hK.2 1 _ rfl).1 N (fun j => .int (f j))) (fun q => by cases q) (gx_arr_in hin) rfl rfl hd fun H1 e1 z oq => ?_
  exact k p l e R s m args below meth c H1 _ cells slots ls A (hR.put haN z oq (by show H1[a]? = some _; rw [e1]; exact congrArg some (gx_cell_i _ _ _ _ _))) (gx_locs hL haN) hl hc hs
theorem J_zast {a N : Nat} {f : Nat → Int32} {i x : Int32} (hd : decode M.2.1 pc = .ok (.bastore, 1)) (ha : h.2 a = some (.inl (G.2.1 2, N, .inl f))) (hin : vp_in i N) (hx : narrow .boolean (.int x) = .int x) (hn : pc + 1 = n) (k : gx_J G M d kc ks Q n lv rest (gx_up h a (.inl (G.2.1 2, N, .inl (upd f i.toNatClampNeg x))))) : gx_J G M d kc ks Q pc lv (.int x :: .int i :: .ref a :: rest) h := by
  subst hn
  intro p l e R s m args below meth c H locs cells slots ls A hR hL hl hc hs
  have hK := A.2.2.2.2.2.2.2.2.1.1
  obtain ⟨haN, hcell⟩ := hR.2.2.2 a _ ha
  refine W.zast A.1 A.2.1 hcell ((hK.2 2 _ rfl).1 N (fun j => .int (f j))) (fun q => by cases q) (gx_arr_in hin) rfl rfl hd fun H1 e1 z oq => ?_
  exact k p l e R s m args below meth c H1 _ cells slots ls A (hR.put haN z oq (by show H1[a]? = some _; rw [e1, hx]; exact congrArg some (gx_cell_i _ _ _ _ _))) (gx_locs hL haN) hl hc hs
/-! made cells -/
theorem J_new {ci : Nat} {C : String} {T : u_T} {N : Nat} {ty : Nat → FieldType} (hcl : gx_clOk ci C T N ty) {index : Nat} {fs : List Value} (hd : decode M.2.1 pc = .ok (.new index, 3)) (hw : Cond.classLink M.1 index C ∈ gx_ws) (hw1 : Cond.instantiable C N ∈ gx_ws) (hw2 : Cond.initialized C ∈ gx_ws) (hfs : ∀ j, j < N → defaultValue (ty j) = vp_V fs j) (hn : pc + 3 = n) (k : gx_J G M d kc ks Q n lv (.ref h.1 :: rest) (gx_push h (.inr (ci, fs)))) : gx_J G M d (kc + 1) (ks + N) Q pc lv rest h := by
  subst hn
  intro p l e R s m args below meth c H locs cells slots ls A hR hL hl hcc hs
  have hts := A.2.2.2.2.2.2.2.1
  have hKn := A.2.2.2.2.2.2.2.2.1.1.1 ci _ hcl.1
  refine W.newcK A.1 A.2.1 A.2.2.2.2.2.1 (hts _ hw) (hts _ hw1) (hts _ hw2) rfl hd (by omega) (by omega) hKn.2.1 hR.1 fun H1 kC hkC e1 z1 o1 => ?_
  refine k p l e R s m args below meth c H1 locs (cells + 1) (slots + N) ls A (hR.push (by rw [hR.1]; exact z1) (fun q hq => o1 q (by rw [← hR.1]; exact hq)) ?_) hL hl (by omega) (by omega)
  rw [hR.1]
  exact ⟨_, hcl.1, (u_born ty hts hcl.2.1 hKn hkC e1 hcl.2.2.1).to hfs⟩
theorem gx_arrId {G : gx_G} {s : State} {t : Nat} {cA cB : ClassId} {ty : FieldType} (hK : va_K G.1 gx_cl (gx_tys G) s) (ht : (gx_tys G)[t]? = some (cA, ty)) (hp : ∀ C, ty ≠ .object C) (hf : s.vm.findClass ("[" ++ ty.toString) = some cB) : cB = cA := by
  have h2 := (hK.2 t _ ht).2
  cases ty with
  | object C => exact absurd rfl (hp C)
  | _ => exact Option.some.inj (hf.symm.trans h2)
theorem J_newa {at_ : ArrayType} {t : Nat} {cA : ClassId} {z : Int32} {N : Nat} {a0 : vp_A} (hd : decode M.2.1 pc = .ok (.newarray at_, 2)) (hw : Cond.arrayClass (newarray.typeOf at_) ∈ gx_ws) (ht : (gx_tys G)[t]? = some (cA, newarray.typeOf at_)) (hp : ∀ C, newarray.typeOf at_ ≠ .object C) (ha : vp_cell cA a0 = arrV cA N (fun _ => defaultValue (newarray.typeOf at_))) (hz : ¬ z < 0) (hN : z.toNatClampNeg = N) (hbytes : N * componentBytes (newarray.typeOf at_) ≤ 536870912) (hn : pc + 2 = n) (k : gx_J G M d kc ks Q n lv (.ref h.1 :: rest) (gx_push h (.inl (cA, a0)))) : gx_J G M d (kc + 1) (ks + N) Q pc lv (.int z :: rest) h := by
  subst hn
  intro p l e R s m args below meth c H locs cells slots ls A hR hL hl hcc hs
  have hts := A.2.2.2.2.2.2.2.1
  refine va_newaK A.1 A.2.1 (hts _ hw) rfl hd rfl hz hN hbytes (by omega) (by omega) hR.1 fun H1 cB e1 z1 o1 hAr hNm => ?_
  have hcB : cB = cA := gx_arrId A.2.2.2.2.2.2.2.2.1.1 ht hp hNm
  subst hcB
  refine k p l e R s m args below meth c H1 locs (cells + 1) (slots + N) ls A (hR.push (by rw [hR.1]; exact z1) (fun q hq => o1 q (by rw [← hR.1]; exact hq)) ?_) hL hl (by omega) (by omega)
  rw [hR.1]
  show H1[h.1]? = some (vp_cell _ _)
  rw [ha]
  exact e1
theorem J_anew {index : Nat} {C : String} {t : Nat} {cA : ClassId} {z : Int32} {N : Nat} (hd : decode M.2.1 pc = .ok (.anewarray index, 3)) (hw : Cond.classLink M.1 index C ∈ gx_ws) (hw1 : C ∈ gx_over) (ht : (gx_tys G)[t]? = some (cA, .object C)) (hz : ¬ z < 0) (hN : z.toNatClampNeg = N) (hbytes : N * 4 ≤ 536870912) (hn : pc + 3 = n) (k : gx_J G M d kc ks Q n lv (.ref h.1 :: rest) (gx_push h (.inl (cA, N, .inr (.inr (.inr (.inr (fun _ => none)))))))) : gx_J G M d (kc + 1) (ks + N) Q pc lv (.int z :: rest) h := by
  subst hn
  subst hN
  intro p l e R s m args below meth c H locs cells slots ls A hR hL hl hcc hs
  have hts := A.2.2.2.2.2.2.2.1
  refine W.anew A.1 A.2.1 A.2.2.2.2.2.1 (hts _ hw) (va_AO.use (A.2.2.2.2.2.2.2.2.1.2.2.2.2.2 C hw1)) rfl hd rfl hz hbytes (by omega) (by omega) fun cB kA comp f1 f2 f3 f4 => ?_
  have hcB : cB = cA := by
    obtain ⟨_, _, -, -, -, h2⟩ := (A.2.2.2.2.2.2.2.2.1.1.2 t _ ht).2
    exact Option.some.inj (f1.symm.trans h2)
  subst hcB
  have e2 := k p l e R s m args below meth c (H.push ({ cls := cB, slots := Array.replicate z.toNatClampNeg .null, vm := .none } : Cell)) locs (cells + 1) (slots + z.toNatClampNeg) ls A (hR.push (by simp) (fun q hq => by rw [Array.getElem?_push, if_neg (Nat.ne_of_lt hq)]) (by show (H.push _)[H.size]? = some (vp_cell _ _); rw [vp_cell_q, Array.getElem?_push_size, ← arrV_new]; rfl)) hL hl (by omega) (by omega)
  rw [← hR.1] at e2
  exact e2
theorem J_objInit {index : Nat} {a : Nat} (hd : decode M.2.1 pc = .ok (.invokespecial index, 3)) (hw : Cond.methodLink M.1 index Lib.objectInit ∈ gx_ws) (hw1 : Cond.instanceMethod Lib.objectInit ∈ gx_ws) (hw2 : Cond.code Lib.objectInit ⟨#[0xb1]⟩ 1 none ∈ gx_ws) (hst : (rest.map fun v => v.category).sum ≤ 8) (hn : pc + 3 = n) (k : gx_J G M (d + 1) kc ks Q n lv rest h) : gx_J G M (d + 1) kc ks Q pc lv (.ref a :: rest) h := by
  subst hn
  intro p l e R s m args below meth c H locs cells slots ls A hR hL hl hcc hs
  have hts := A.2.2.2.2.2.2.2.1
  have hfr := A.2.2.2.2.2.2.2.2.2.1
  have hlo := A.2.2.2.2.2.2.2.2.2.2
  exact W.objInit A.1 A.2.1 A.2.2.2.2.2.1 (hts _ hw) (hts _ hw1) (hts _ hw2) rfl (hl.1.trans A.2.2.1.symm) rfl hd (by omega) (by show 2 * 0 + _ + 12 ≤ _; omega) (k p l e R s m args below meth c H locs cells slots ls A hR hL hl hcc hs)
theorem J_aast {a N t ci b : Nat} {r : vw_C} {f : Nat → Option Nat} {vs : List Value} {i : Int32} (hd : decode M.2.1 pc = .ok (.aastore, 1)) {cA : ClassId} (ha : h.2 a = some (.inl (cA, N, .inr (.inr (.inr (.inr f)))))) (ht : (gx_tys G)[t]? = some (cA, .object r.1)) (hb : h.2 b = some (.inr (ci, vs))) (hc : gx_cl[ci]? = some r) (hin : vp_in i N) (hn : pc + 1 = n) (k : gx_J G M d kc ks Q n lv rest (gx_up h a (.inl (cA, N, .inr (.inr (.inr (.inr (va_up f i.toNatClampNeg (some b))))))))) : gx_J G M d kc ks Q pc lv (.ref b :: .int i :: .ref a :: rest) h := by
  subst hn
  intro p l e R s m args below meth c H locs cells slots ls A hR hL hl hcc hs
  have hK := A.2.2.2.2.2.2.2.2.1.1
  have hlt : i.toNatClampNeg < N := Nat.not_le.mp fun q => hin (Or.inr q)
  have h0 : ¬ i < 0 := fun q => hin (Or.inl q)
  obtain ⟨haN, hcell⟩ := hR.2.2.2 a _ ha
  obtain ⟨-, r', hr', cellV, g1, g2, g3, -⟩ := hR.2.2.2 b _ hb
  have hcls := (hK.1 ci r hc).2
  obtain ⟨kA, comp, k1, k2, k3, -⟩ := (hK.2 t _ ht).2
  have hcomp : comp = G.1.1 ci := Option.some.inj (k3.symm.trans hcls.1)
  subst hcomp
  obtain ⟨kC, hkC, -⟩ := hcls.2
  refine W.aast A.1 A.2.1 hcell (fun q h => by cases h) (fun h => by cases h) k1 k2 rfl hkC ⟨h0, by show _ < (arrV _ _ _).slots.size; rw [arrV_size]; exact hlt⟩ g1 (fun q h => by rw [g3] at h; cases h) (by rw [g2]; exact hkC) (by rw [g2]; exact va_assign hcls) rfl rfl hd fun H1 e1 z oq => ?_
  refine k p l e R s m args below meth c H1 _ cells slots ls A (hR.put haN z oq ?_) (gx_locs hL haN) hl hcc hs
  show H1[a]? = some (vp_cell _ _)
  rw [e1]
  rw [vp_cell_q, vp_cell_q, arrV_store]
  congr 2
  funext q
  by_cases hq : q = i.toNatClampNeg
  · subst hq
    simp [updV, va_up, va_rf]
  · simp [updV, va_up, hq]
/-! the JDK's small ones -/
theorem J_mmax {index : Nat} {x y : Int32} (hd : decode M.2.1 pc = .ok (.invokestatic index, 3)) (hw : Cond.methodLink M.1 index Lib.Math.max.name ∈ gx_ws) (hw1 : Cond.static Lib.Math.max.name ∈ gx_ws ∧ Cond.initialized "java/lang/Math" ∈ gx_ws ∧ Cond.code Lib.Math.max.name Lib.Math.max.code 2 (some .int) ∈ gx_ws) (hst : (rest.map fun v => v.category).sum ≤ 8) (hn : pc + 3 = n) (k : gx_J G M (d + 1) kc ks Q n lv (.int (if x < y then y else x) :: rest) h) : gx_J G M (d + 1) kc ks Q pc lv (.int y :: .int x :: rest) h := by
  subst hn
  intro p l e R s m args below meth c H locs cells slots ls A hR hL hl hcc hs
  have hts := A.2.2.2.2.2.2.2.1
  have hfr := A.2.2.2.2.2.2.2.2.2.1
  have hlo := A.2.2.2.2.2.2.2.2.2.2
  exact va_mmax A.1 A.2.1 (A.2.2.1.trans hl.1.symm) A.2.2.2.2.2.1 (hts _ hw) (hts _ hw1.1) (hts _ hw1.2.1) (hts _ hw1.2.2) (by omega) (by omega) (by omega) (by omega) hd (k p l e R s m args below meth c H locs cells slots ls A hR hL hl hcc hs)
theorem J_mmin {index : Nat} {x y : Int32} (hd : decode M.2.1 pc = .ok (.invokestatic index, 3)) (hw : Cond.methodLink M.1 index Lib.Math.min.name ∈ gx_ws) (hw1 : Cond.static Lib.Math.min.name ∈ gx_ws ∧ Cond.initialized "java/lang/Math" ∈ gx_ws ∧ Cond.code Lib.Math.min.name Lib.Math.min.code 2 (some .int) ∈ gx_ws) (hst : (rest.map fun v => v.category).sum ≤ 8) (hn : pc + 3 = n) (k : gx_J G M (d + 1) kc ks Q n lv (.int (if y < x then y else x) :: rest) h) : gx_J G M (d + 1) kc ks Q pc lv (.int y :: .int x :: rest) h := by
  subst hn
  intro p l e R s m args below meth c H locs cells slots ls A hR hL hl hcc hs
  have hts := A.2.2.2.2.2.2.2.1
  have hfr := A.2.2.2.2.2.2.2.2.2.1
  have hlo := A.2.2.2.2.2.2.2.2.2.2
  exact va_mmin A.1 A.2.1 (A.2.2.1.trans hl.1.symm) A.2.2.2.2.2.1 (hts _ hw) (hts _ hw1.1) (hts _ hw1.2.1) (hts _ hw1.2.2) (by omega) (by omega) (by omega) (by omega) hd (k p l e R s m args below meth c H locs cells slots ls A hR hL hl hcc hs)
theorem J_mabs {index : Nat} {x : Int32} (hd : decode M.2.1 pc = .ok (.invokestatic index, 3)) (hw : Cond.methodLink M.1 index Lib.Math.abs.name ∈ gx_ws) (hw1 : Cond.static Lib.Math.abs.name ∈ gx_ws ∧ Cond.initialized "java/lang/Math" ∈ gx_ws ∧ Cond.code Lib.Math.abs.name Lib.Math.abs.code 1 (some .int) ∈ gx_ws) (hst : (rest.map fun v => v.category).sum ≤ 8) (hn : pc + 3 = n) (k : gx_J G M (d + 1) kc ks Q n lv (.int (if 0 ≤ x then x else 0 - x) :: rest) h) : gx_J G M (d + 1) kc ks Q pc lv (.int x :: rest) h := by
  subst hn
  intro p l e R s m args below meth c H locs cells slots ls A hR hL hl hcc hs
  have hts := A.2.2.2.2.2.2.2.1
  have hfr := A.2.2.2.2.2.2.2.2.2.1
  have hlo := A.2.2.2.2.2.2.2.2.2.2
  exact va_mabs A.1 A.2.1 (A.2.2.1.trans hl.1.symm) A.2.2.2.2.2.1 (hts _ hw) (hts _ hw1.1) (hts _ hw1.2.1) (hts _ hw1.2.2) (by omega) (by omega) (by omega) (by omega) hd (k p l e R s m args below meth c H locs cells slots ls A hR hL hl hcc hs)
/-! calls -/
theorem gx_K.of {y : MethodName} {mc ms : Nat} {av : List Value} (hy : plainName y.cls = true) (hcls : y.cls = M.1) (hnm : M.2.2.2.2 = true → y.name = "<init>") (hlen : (lg_sl av).length ≤ M.2.2.1) (k : gx_J G M d mc ms Q 0 (lv_args 0 av) [] h) : gx_K G y M d mc ms av h Q := by
  intro l rm e1 e2 e3 e4
  refine Met.ofW (cc := M.2.1) (maxL := M.2.2.1) (ret := M.2.2.2.1) (ws' := gx_ws) hy rfl ?_
  intro p e s m args below meth c s₁ B hml hv
  obtain ⟨rfl, hI, hR⟩ := hv
  have hts : ∀ w ∈ (Cond.code y M.2.1 M.2.2.1 M.2.2.2.1 :: gx_ws), w.before av.toArray s = true := atoms_spec B.pre
  have hown : s.vm.findClass y.cls = some m.cls := findClass_of_methodNamed B.named
  have hl := lv_entry av (n := M.2.2.1) hlen
  rw [lg_entry_eq]
  have := k p l e rm s m av.toArray below meth c s.heap [] 0 0 _ ⟨B.exec, B.bytes, hml, B.returns, B.notSynchronized, by rw [← hcls]; exact hown, fun q => (name_of_methodNamed B.named B.method).1.trans (hnm q), fun w hw => hts w (List.mem_cons_of_mem _ hw), hI, by omega, by omega⟩ hR (fun q hq => by cases hq) hl (by omega) (by omega)
  rw [e3, e4] at this
  exact this
theorem gx_callX {R : Room} {s : State} {m : MethodId} {args : Array Value} {p : Program} {l : Launch} {e : Env} {below : List Frame} {meth : Method} {c : Code} {H : Heap} {locs : List Loc} {cells slots mc ms : Nat} {ls : Array Slot} {st0 : List Value} {Q1 : Option Value → gx_Hp → Prop} {a : Array Value}
    (A : gx_At G M d p R s m args meth c) (hL : ∀ q ∈ locs, gx_N G ≤ q.base) (hl : lv_has ls M.2.2.1 lv) (hc : cells + (mc + kc) ≤ R.cells) (hs : slots + (ms + ks) ≤ R.slots)
    (hr : va_Run p l e R s m args below meth c H locs cells slots mc ms (F0 m pc ls st0) rest (gx_Qc G Q1 a) (fun a => gx_N G ≤ a))
    (k : ∀ r h1, Q1 r h1 → gx_J G M d kc ks Q (pc + 3) lv (r.toList ++ rest) h1) : W p l e R s m args below meth c H locs cells slots (MQ below (gx_Qc G Q) args s R.cells R.slots (fun a => gx_N G ≤ a)) (F0 m pc ls st0) := by
  intro T hT X
  obtain ⟨v, st₀, t, T', L, h0, X', hLL, e1, e2, ⟨r, h1, hv, hq, hR1⟩, st⟩ := hr T hT X
  cases hv
  obtain ⟨t2, a1, b1⟩ := k v h1 hq p l e R s m args below meth c T'.heap (locs ++ L) (cells + mc) (slots + ms) ls A (by rw [e1]; exact hR1) (fun q hq => by
      rcases List.mem_append.mp hq with hq | hq
      · exact hL q hq
      · exact hLL q hq) hl (by omega) (by omega) T' rfl X'
  exact ⟨t2, st t2 a1, b1⟩
/-- what is said of a method once: its code is among the words, its class initialised, its parameters' number -/
def gx_St (y : MethodName) (M1 : gx_M) (np : Nat) : Prop := Cond.code y M1.2.1 M1.2.2.1 M1.2.2.2.1 ∈ gx_ws ∧ Cond.initialized y.cls ∈ gx_ws ∧ (y.cls ≠ "java/lang/invoke/MethodHandle" ∧ y.cls ≠ "java/lang/invoke/VarHandle" ∧ (parseMethodDescriptor y.desc).map (fun d => d.parameters.length) = some np) ∧ M1.2.2.1 ≤ 60
theorem J_callV {y : MethodName} {M1 : gx_M} {np mc ms index : Nat} {As st0 : List Value} {b ci : Nat} {C : String} {T : u_T} {N : Nat} {fs : List Value} {Q1 : Option Value → gx_Hp → Prop} (hS : gx_St y M1 np) (hK : gx_K G y M1 d mc ms (.ref b :: As) h Q1) (hd : decode M.2.1 pc = .ok (.invokevirtual index, 3)) (hw : Cond.methodLink M.1 index y ∈ gx_ws) (hw1 : Cond.instanceMethod y ∈ gx_ws ∧ Cond.selects C y y ∈ gx_ws) (hc : gx_cl[ci]? = some (C, T, N)) (hb : h.2 b = some (.inr (ci, fs))) (hA : As.length = np) (hstk : st0 = As.reverse ++ .ref b :: rest) (hst : (rest.map fun v => v.category).sum ≤ 8) (hn : pc + 3 = n)
    (k : ∀ r h1, Q1 r h1 → gx_J G M (d + 1) kc ks Q n lv (r.toList ++ rest) h1) : gx_J G M (d + 1) (mc + kc) (ms + ks) Q pc lv st0 h := by
  subst hn
  subst hstk
  intro p l e R s m args below meth c H locs cells slots ls A hR hL hl hcc hs
  obtain ⟨hx, hcb, hml, -, -, hown, -, hts, hI, hfr, hlo⟩ := id A
  obtain ⟨s1, s2, s3, s4⟩ := hS
  refine gx_callX (a := (Value.ref b :: As).toArray) A hL hl hcc hs (va_runV (C := C) (nL := M.2.2.1) (rm := { frames := d, cells := mc, slots := ms, locals := 100 * d }) ⟨hx, hcb, hml, hown, hts⟩ (hK l _ rfl rfl rfl rfl) ⟨callB_of np hts (gx_goodIn s1) rfl rfl rfl (hts _ s2) (hts _ hw) s3 ⟨by show d + 1 ≤ _; omega, by show 8 + (_ + 11) + 100 * d ≤ _; omega⟩, hts _ hw1.1, hts _ hw1.2⟩ ⟨gx_blind _ _ _, va_recv hI.1 (gx_one hR hb) hc (q0 := 0) rfl, fun U hU hW => ⟨rfl, hI.moved hW, by rw [hU]; exact hR⟩⟩ rfl hA hl.1 rfl (lv_room hst) hd ⟨by omega, by omega⟩) k
theorem J_callS {y : MethodName} {M1 : gx_M} {np mc ms index : Nat} {As st0 : List Value} {Q1 : Option Value → gx_Hp → Prop} (hS : gx_St y M1 np) (hK : gx_K G y M1 d mc ms As h Q1) (hd : decode M.2.1 pc = .ok (.invokestatic index, 3)) (hw : Cond.methodLink M.1 index y ∈ gx_ws) (hw1 : Cond.static y ∈ gx_ws) (hA : As.length = np) (hstk : st0 = As.reverse ++ rest) (hst : (rest.map fun v => v.category).sum ≤ 8) (hn : pc + 3 = n)
    (k : ∀ r h1, Q1 r h1 → gx_J G M (d + 1) kc ks Q n lv (r.toList ++ rest) h1) : gx_J G M (d + 1) (mc + kc) (ms + ks) Q pc lv st0 h := by
  subst hn
  subst hstk
  intro p l e R s m args below meth c H locs cells slots ls A hR hL hl hcc hs
  obtain ⟨hx, hcb, hml, -, -, hown, -, hts, hI, hfr, hlo⟩ := id A
  obtain ⟨s1, s2, s3, s4⟩ := hS
  refine gx_callX (a := As.toArray) A hL hl hcc hs (va_runS (nL := M.2.2.1) (rm := { frames := d, cells := mc, slots := ms, locals := 100 * d }) ⟨hx, hcb, hml, hown, hts⟩ (hK l _ rfl rfl rfl rfl) ⟨callB_of np hts (gx_goodIn s1) rfl rfl rfl (hts _ s2) (hts _ hw) s3 ⟨by show d + 1 ≤ _; omega, by show 8 + (_ + 11) + 100 * d ≤ _; omega⟩, hts _ hw1⟩ ⟨gx_blind _ _ _, fun U hU hW => ⟨rfl, hI.moved hW, by rw [hU]; exact hR⟩⟩ rfl hA hl.1 rfl (lv_room hst) hd ⟨by omega, by omega⟩) k
theorem J_callI {y : MethodName} {M1 : gx_M} {np mc ms index : Nat} {As st0 : List Value} {b : Nat} {Q1 : Option Value → gx_Hp → Prop} (hS : gx_St y M1 np) (hK : gx_K G y M1 d mc ms (.ref b :: As) h Q1) (hret : M1.2.2.2.1 = none) (hd : decode M.2.1 pc = .ok (.invokespecial index, 3)) (hw : Cond.methodLink M.1 index y ∈ gx_ws) (hw1 : Cond.instanceMethod y ∈ gx_ws) (hnm : y.name = "<init>") (hA : As.length = np) (hstk : st0 = As.reverse ++ .ref b :: rest) (hst : (rest.map fun v => v.category).sum ≤ 8) (hn : pc + 3 = n)
    (k : ∀ r h1, Q1 r h1 → gx_J G M (d + 1) kc ks Q n lv (r.toList ++ rest) h1) : gx_J G M (d + 1) (mc + kc) (ms + ks) Q pc lv st0 h := by
  subst hn
  subst hstk
  intro p l e R s m args below meth c H locs cells slots ls A hR hL hl hcc hs
  obtain ⟨hx, hcb, hml, -, -, hown, -, hts, hI, hfr, hlo⟩ := id A
  obtain ⟨s1, s2, s3, s4⟩ := hS
  have hK1 := hK l { frames := d, cells := mc, slots := ms, locals := 100 * d } rfl rfl rfl rfl
  rw [hret] at s1 hK1
  refine gx_callX (a := (Value.ref b :: As).toArray) A hL hl hcc hs (va_runI (nL := M.2.2.1) (rm := { frames := d, cells := mc, slots := ms, locals := 100 * d }) ⟨hx, hcb, hml, hown, hts⟩ hK1 ⟨callB_of np hts (gx_goodIn s1) rfl rfl rfl (hts _ s2) (hts _ hw) s3 ⟨by show d + 1 ≤ _; omega, by show 8 + (_ + 11) + 100 * d ≤ _; omega⟩, hnm, hts _ hw1⟩ ⟨gx_blind _ _ _, fun U hU hW => ⟨rfl, hI.moved hW, by rw [hU]; exact hR⟩⟩ rfl hA hl.1 rfl (lv_room hst) hd ⟨by omega, by omega⟩) k
theorem J_callSN {y : MethodName} {M1 : gx_M} {np mc ms index : Nat} {As st0 : List Value} {Q1 : Option Value → gx_Hp → Prop} (hS : gx_St y M1 np) (hK : gx_K G y M1 d mc ms As h Q1) (hd : decode M.2.1 pc = .ok (.invokestatic index, 3)) (hw : (M.1, index, y) ∈ gx_nest) (hw1 : Cond.static y ∈ gx_ws) (hA : As.length = np) (hstk : st0 = As.reverse ++ rest) (hst : (rest.map fun v => v.category).sum ≤ 8) (hn : pc + 3 = n)
    (k : ∀ r h1, Q1 r h1 → gx_J G M (d + 1) kc ks Q n lv (r.toList ++ rest) h1) : gx_J G M (d + 1) (mc + kc) (ms + ks) Q pc lv st0 h := by
  subst hn
  subst hstk
  intro p l e R s m args below meth c H locs cells slots ls A hR hL hl hcc hs
  obtain ⟨hx, hcb, hml, -, -, hown, -, hts, hI, hfr, hlo⟩ := id A
  obtain ⟨s1, s2, s3, s4⟩ := hS
  have hlk : va_Nw (Cond.methodLinkNest M.1 index y RX6) s := hI.2.2.2.2.1 _ hw
  refine gx_callX (a := As.toArray) A hL hl hcc hs (va_runSN (nL := M.2.2.1) (host := RX6) (rm := { frames := d, cells := mc, slots := ms, locals := 100 * d }) ⟨hx, hcb, hml, hown, hts⟩ (hK l _ rfl rfl rfl rfl) ⟨va_cnB np hts (gx_goodIn s1) rfl rfl rfl hlk (hts _ s2) s3 ⟨by show d + 1 ≤ _; omega, by show 8 + (_ + 11) + 100 * d ≤ _; omega⟩, hts _ hw1, trivial⟩ ⟨gx_blind _ _ _, fun U hU hW => ⟨rfl, hI.moved hW, by rw [hU]; exact hR⟩⟩ rfl hA hl.1 rfl (lv_room hst) hd ⟨by omega, by omega⟩) k
theorem J_callIN {y : MethodName} {M1 : gx_M} {np mc ms index : Nat} {As st0 : List Value} {b : Nat} {Q1 : Option Value → gx_Hp → Prop} (hS : gx_St y M1 np) (hK : gx_K G y M1 d mc ms (.ref b :: As) h Q1) (hret : M1.2.2.2.1 = none) (hd : decode M.2.1 pc = .ok (.invokespecial index, 3)) (hw : (M.1, index, y) ∈ gx_nest) (hw1 : Cond.instanceMethod y ∈ gx_ws) (hnm : y.name = "<init>") (hA : As.length = np) (hstk : st0 = As.reverse ++ .ref b :: rest) (hst : (rest.map fun v => v.category).sum ≤ 8) (hn : pc + 3 = n)
    (k : ∀ r h1, Q1 r h1 → gx_J G M (d + 1) kc ks Q n lv (r.toList ++ rest) h1) : gx_J G M (d + 1) (mc + kc) (ms + ks) Q pc lv st0 h := by
  subst hn
  subst hstk
  intro p l e R s m args below meth c H locs cells slots ls A hR hL hl hcc hs
  obtain ⟨hx, hcb, hml, -, -, hown, -, hts, hI, hfr, hlo⟩ := id A
  obtain ⟨s1, s2, s3, s4⟩ := hS
  have hlk : va_Nw (Cond.methodLinkNest M.1 index y RX6) s := hI.2.2.2.2.1 _ hw
  have hK1 := hK l { frames := d, cells := mc, slots := ms, locals := 100 * d } rfl rfl rfl rfl
  rw [hret] at s1 hK1
  refine gx_callX (a := (Value.ref b :: As).toArray) A hL hl hcc hs (va_runIN (nL := M.2.2.1) (host := RX6) (rm := { frames := d, cells := mc, slots := ms, locals := 100 * d }) ⟨hx, hcb, hml, hown, hts⟩ hK1 ⟨va_cnB np hts (gx_goodIn s1) rfl rfl rfl hlk (hts _ s2) s3 ⟨by show d + 1 ≤ _; omega, by show 8 + (_ + 11) + 100 * d ≤ _; omega⟩, hnm, hts _ hw1⟩ ⟨gx_blind _ _ _, fun U hU hW => ⟨rfl, hI.moved hW, by rw [hU]; exact hR⟩⟩ rfl hA hl.1 rfl (lv_room hst) hd ⟨by omega, by omega⟩) k
/-! fewer locals, a weaker end -/
theorem J_sub {lv' : List (Nat × Value)} (hs : ∀ q ∈ lv', q ∈ lv) (k : gx_J G M d kc ks Q pc lv' rest h) : gx_J G M d kc ks Q pc lv rest h := by
  intro p l e R s m args below meth c H locs cells slots ls A hR hL hl hc hs2
  exact k p l e R s m args below meth c H locs cells slots ls A hR hL (gl_sub hl hs) hc hs2
end GXJ
end
section
theorem wl_X0 : ∀ w ∈ u_ws RX0 TX0 3, w ∈ gx_ws := fun w h => gx_in (List.mem_of_elem_eq_true (by revert w h; decide +kernel)) (by revert w h; decide +kernel)
theorem wk_X0 : gx_clOk 0 RX0 TX0 3 tyX0 := ⟨rfl, wl_X0, tyX0_ok, nmX0⟩
theorem wl_X1 : ∀ w ∈ u_ws RX1 TX1 3, w ∈ gx_ws := fun w h => gx_in (List.mem_of_elem_eq_true (by revert w h; decide +kernel)) (by revert w h; decide +kernel)
theorem wk_X1 : gx_clOk 1 RX1 TX1 3 tyX1 := ⟨rfl, wl_X1, tyX1_ok, nmX1⟩
theorem wl_X2 : ∀ w ∈ u_ws RX2 TX2 4, w ∈ gx_ws := fun w h => gx_in (List.mem_of_elem_eq_true (by revert w h; decide +kernel)) (by revert w h; decide +kernel)
theorem wk_X2 : gx_clOk 2 RX2 TX2 4 tyX2 := ⟨rfl, wl_X2, tyX2_ok, nmX2⟩
theorem wl_X3 : ∀ w ∈ u_ws RX3 TX3 2, w ∈ gx_ws := fun w h => gx_in (List.mem_of_elem_eq_true (by revert w h; decide +kernel)) (by revert w h; decide +kernel)
theorem wk_X3 : gx_clOk 3 RX3 TX3 2 tyX3 := ⟨rfl, wl_X3, tyX3_ok, nmX3⟩
theorem wl_X4 : ∀ w ∈ u_ws RX4 TX4 10, w ∈ gx_ws := fun w h => gx_in (List.mem_of_elem_eq_true (by revert w h; decide +kernel)) (by revert w h; decide +kernel)
theorem wk_X4 : gx_clOk 4 RX4 TX4 10 tyX4 := ⟨rfl, wl_X4, tyX4_ok, nmX4⟩
theorem wl_X5 : ∀ w ∈ u_ws RX5 TX5 11, w ∈ gx_ws := fun w h => gx_in (List.mem_of_elem_eq_true (by revert w h; decide +kernel)) (by revert w h; decide +kernel)
theorem wk_X5 : gx_clOk 5 RX5 TX5 11 tyX5 := ⟨rfl, wl_X5, tyX5_ok, nmX5⟩
theorem wl_X6 : ∀ w ∈ u_ws RX6 TX6 10, w ∈ gx_ws := fun w h => gx_in (List.mem_of_elem_eq_true (by revert w h; decide +kernel)) (by revert w h; decide +kernel)
theorem wk_X6 : gx_clOk 6 RX6 TX6 10 tyX6 := ⟨rfl, wl_X6, tyX6_ok, nmX6⟩
theorem wl_X7 : ∀ w ∈ u_ws RX7 TX7 30, w ∈ gx_ws := fun w h => gx_in (List.mem_of_elem_eq_true (by revert w h; decide +kernel)) (by revert w h; decide +kernel)
theorem wk_X7 : gx_clOk 7 RX7 TX7 30 tyX7 := ⟨rfl, wl_X7, tyX7_ok, nmX7⟩
def mX0_init : gx_M := (RX0, cX0_init, 1, none, true)
def mX1_init : gx_M := (RX1, cX1_init, 1, none, true)
def mX1_makeNew : gx_M := (RX1, cX1_makeNew, 3, none, false)
def mX1_isNothing : gx_M := (RX1, cX1_isNothing, 1, (some .boolean), false)
def mX1_faultAt : gx_M := (RX1, cX1_faultAt, 2, (some .int), false)
def mX1_faultAtPair : gx_M := (RX1, cX1_faultAtPair, 4, (some .int), false)
def mX1_lowestBits : gx_M := (RX1, cX1_lowestBits, 2, (some .int), false)
def mX2_init : gx_M := (RX2, cX2_init, 1, none, true)
def mX2_become : gx_M := (RX2, cX2_become, 2, none, false)
def mX2_add : gx_M := (RX2, cX2_add, 4, none, false)
def mX2_lastDay : gx_M := (RX2, cX2_lastDay, 3, (some .int), false)
def mX2_fits : gx_M := (RX2, cX2_fits, 4, (some .boolean), false)
def mX3_init : gx_M := (RX3, cX3_init, 1, none, true)
def mX4_init : gx_M := (RX4, cX4_init, 3, none, true)
def mX4_takesAll : gx_M := (RX4, cX4_takesAll, 1, (some .boolean), false)
def mX4_refuses : gx_M := (RX4, cX4_refuses, 2, (some .boolean), false)
def mX4_takesLine : gx_M := (RX4, cX4_takesLine, 2, (some .boolean), false)
def mX4_takesGlove : gx_M := (RX4, cX4_takesGlove, 3, (some .boolean), false)
def mX4_takesRoute : gx_M := (RX4, cX4_takesRoute, 2, (some .boolean), false)
def mX4_takesMan : gx_M := (RX4, cX4_takesMan, 1, (some .boolean), false)
def mX4_takesRow : gx_M := (RX4, cX4_takesRow, 3, (some .boolean), false)
def mX4_takesNumber : gx_M := (RX4, cX4_takesNumber, 2, (some .boolean), false)
def mX4_takesMark : gx_M := (RX4, cX4_takesMark, 1, (some .boolean), false)
def mX4_readsToken : gx_M := (RX4, cX4_readsToken, 2, (some .boolean), false)
def mX4_readsWord : gx_M := (RX4, cX4_readsWord, 1, (some .boolean), false)
def mX4_readsNumber : gx_M := (RX4, cX4_readsNumber, 1, (some .boolean), false)
def mX4_isLetter : gx_M := (RX4, cX4_isLetter, 1, (some .boolean), false)
def mX4_isFigure : gx_M := (RX4, cX4_isFigure, 1, (some .boolean), false)
def mX4_wordRead : gx_M := (RX4, cX4_wordRead, 2, (some .int), false)
def mX4_isSpelled : gx_M := (RX4, cX4_isSpelled, 3, (some .boolean), false)
def mX4_spellingOf : gx_M := (RX4, cX4_spellingOf, 1, (some (.object "java/lang/String")), false)
def mX5_init : gx_M := (RX5, cX5_init, 1, none, true)
def mX5_makeEmpty : gx_M := (RX5, cX5_makeEmpty, 1, none, false)
def mX5_become : gx_M := (RX5, cX5_become, 2, none, false)
def mX5_partOf : gx_M := (RX5, cX5_partOf, 3, (some .int), false)
def mX5_putPart : gx_M := (RX5, cX5_putPart, 4, none, false)
def mX5_isPaired : gx_M := (RX5, cX5_isPaired, 2, (some .boolean), false)
def mX5_isCold : gx_M := (RX5, cX5_isCold, 2, (some .boolean), false)
def mX5_coldOnes : gx_M := (RX5, cX5_coldOnes, 3, (some .int), false)
def mX5_glovesAt : gx_M := (RX5, cX5_glovesAt, 4, (some .int), false)
def mX5_metCount : gx_M := (RX5, cX5_metCount, 1, (some .int), false)
def mX5_leaveOutCall : gx_M := (RX5, cX5_leaveOutCall, 3, none, false)
def mX5_stepOf : gx_M := (RX5, cX5_stepOf, 4, (some .int), false)
def mX5_moveMan : gx_M := (RX5, cX5_moveMan, 3, none, false)
def mX5_passDays : gx_M := (RX5, cX5_passDays, 3, none, false)
def mX5_passDay : gx_M := (RX5, cX5_passDay, 3, none, false)
def mX5_passDayOfGlove : gx_M := (RX5, cX5_passDayOfGlove, 2, none, false)
def mX6_init : gx_M := (RX6, cX6_init, 2, none, true)
def mX6_feed : gx_M := (RX6, cX6_feed, 2, (some .int), false)
def mX6_end : gx_M := (RX6, cX6_end, 3, (some .int), false)
def mX6_text : gx_M := (RX6, cX6_text, 3, (some .int), false)
def mX6_fault : gx_M := (RX6, cX6_fault, 1, (some .int), false)
def mX6_rule : gx_M := (RX6, cX6_rule, 2, (some .int), false)
def mX6_glove : gx_M := (RX6, cX6_glove, 3, (some .int), false)
def mX6_door : gx_M := (RX6, cX6_door, 3, (some .int), false)
def mX6_stop : gx_M := (RX6, cX6_stop, 2, (some .int), false)
def mX6_alter : gx_M := (RX6, cX6_alter, 6, (some .int), false)
def mX6_fame : gx_M := (RX6, cX6_fame, 4, (some .int), false)
def mX6_leave : gx_M := (RX6, cX6_leave, 2, (some .int), false)
def mX6_go : gx_M := (RX6, cX6_go, 3, (some .int), false)
def mX6_call : gx_M := (RX6, cX6_call, 2, (some .int), false)
def mX6_cut : gx_M := (RX6, cX6_cut, 3, (some .int), false)
def mX6_days : gx_M := (RX6, cX6_days, 3, (some .int), false)
def mX6_runs : gx_M := (RX6, cX6_runs, 3, (some .int), false)
def mX6_ahead : gx_M := (RX6, cX6_ahead, 4, (some .int), false)
def mX6_meets : gx_M := (RX6, cX6_meets, 2, (some .int), false)
def mX6_place : gx_M := (RX6, cX6_place, 4, (some .int), false)
def mX6_extra : gx_M := (RX6, cX6_extra, 3, (some .int), false)
def mX6_swap : gx_M := (RX6, cX6_swap, 8, (some .int), false)
def mX6_shun : gx_M := (RX6, cX6_shun, 6, (some .int), false)
def mX6_need : gx_M := (RX6, cX6_need, 3, (some .int), false)
def mX6_kind : gx_M := (RX6, cX6_kind, 4, (some .int), false)
def mX6_drop : gx_M := (RX6, cX6_drop, 4, (some .int), false)
def mX6_luck : gx_M := (RX6, cX6_luck, 5, (some .long), false)
def mX6_mean : gx_M := (RX6, cX6_mean, 4, (some .long), false)
def mX6_see : gx_M := (RX6, cX6_see, 4, (some .int), false)
def mX6_forget : gx_M := (RX6, cX6_forget, 3, (some .int), false)
def mX6_kinds : gx_M := (RX6, cX6_kinds, 2, (some .int), false)
def mX6_doors : gx_M := (RX6, cX6_doors, 2, (some .int), false)
def mX6_ask : gx_M := (RX6, cX6_ask, 9, (some .int), false)
def mX6_drift : gx_M := (RX6, cX6_drift, 6, (some .int), false)
def mX6_keep : gx_M := (RX6, cX6_keep, 4, (some .int), false)
def mX6_back : gx_M := (RX6, cX6_back, 3, (some .int), false)
def mX6_sheet : gx_M := (RX6, cX6_sheet, 4, (some .int), false)
def mX6_lay : gx_M := (RX6, cX6_lay, 5, (some .int), false)
def mX6_read : gx_M := (RX6, cX6_read, 9, (some .int), false)
def mX6_torn : gx_M := (RX6, cX6_torn, 1, (some .int), false)
def mX6_count : gx_M := (RX6, cX6_count, 2, (some .int), false)
def mX6_isWithin : gx_M := (RX6, cX6_isWithin, 2, (some .boolean), false)
def mX6_isDoor : gx_M := (RX6, cX6_isDoor, 1, (some .boolean), false)
def mX6_isSheet : gx_M := (RX6, cX6_isSheet, 1, (some .boolean), false)
def mX6_isGlove : gx_M := (RX6, cX6_isGlove, 2, (some .boolean), false)
def mX6_isCall : gx_M := (RX6, cX6_isCall, 2, (some .boolean), false)
def mX6_greatestOf : gx_M := (RX6, cX6_greatestOf, 1, (some .int), false)
def mX6_refusalOf : gx_M := (RX6, cX6_refusalOf, 4, (some .int), false)
def mX6_farOf : gx_M := (RX6, cX6_farOf, 3, (some .int), false)
def mX6_sumOf : gx_M := (RX6, cX6_sumOf, 4, (some .int), false)
def mX6_imagesKept : gx_M := (RX6, cX6_imagesKept, 3, (some .int), false)
def mX6_firstPairing : gx_M := (RX6, cX6_firstPairing, 4, (some .int), false)
def mX6_nameBehind : gx_M := (RX6, cX6_nameBehind, 2, (some .int), false)
def mX6_nameWithSwap : gx_M := (RX6, cX6_nameWithSwap, 4, (some .int), false)
def mX6_bestDoorOfCall : gx_M := (RX6, cX6_bestDoorOfCall, 8, (some .int), false)
def mX6_mostNamedPart : gx_M := (RX6, cX6_mostNamedPart, 8, (some .int), false)
def mX6_partsAsSeen : gx_M := (RX6, cX6_partsAsSeen, 5, (some .int), false)
def mX6_trialGoesAsSeen : gx_M := (RX6, cX6_trialGoesAsSeen, 3, (some .boolean), false)
def mX6_mostAtOneDoor : gx_M := (RX6, cX6_mostAtOneDoor, 7, (some .int), false)
def mX6_fractionByOdds : gx_M := (RX6, cX6_fractionByOdds, 11, (some .long), false)
def mX6_weighedBranches : gx_M := (RX6, cX6_weighedBranches, 9, (some .long), false)
def mX6_commonDivisor : gx_M := (RX6, cX6_commonDivisor, 11, (some .long), false)
def mX7_init : gx_M := (RX7, cX7_init, 2, none, true)
def mX7_in : gx_M := (RX7, cX7_in, 6, (some .boolean), false)
def mX7_flag : gx_M := (RX7, cX7_flag, 1, (some .int), false)
def mX7_lesser : gx_M := (RX7, cX7_lesser, 2, (some .int), false)
def mX7_firstDraft : gx_M := (RX7, cX7_firstDraft, 2, none, false)
def mX7_keepDraft : gx_M := (RX7, cX7_keepDraft, 2, none, false)
def mX7_feed : gx_M := (RX7, cX7_feed, 2, (some .int), false)
def mX7_end : gx_M := (RX7, cX7_end, 3, (some .int), false)
def mX7_requires : gx_M := (RX7, cX7_requires, 3, none, false)
def mX7_byteAt : gx_M := (RX7, cX7_byteAt, 2, (some .int), false)
def mX7_is : gx_M := (RX7, cX7_is, 5, (some .boolean), false)
def mX7_endsIn : gx_M := (RX7, cX7_endsIn, 4, (some .boolean), false)
def mX7_lineNow : gx_M := (RX7, cX7_lineNow, 1, (some .int), false)
def mX7_reads : gx_M := (RX7, cX7_reads, 2, none, false)
def mX7_looked : gx_M := (RX7, cX7_looked, 3, (some .int), false)
def mX7_readNumber : gx_M := (RX7, cX7_readNumber, 4, (some .int), false)
def mX7_readFames : gx_M := (RX7, cX7_readFames, 1, none, false)
def mX7_readRoute : gx_M := (RX7, cX7_readRoute, 1, none, false)
def mX7_readLineOf : gx_M := (RX7, cX7_readLineOf, 2, none, false)
def mX7_wasTold : gx_M := (RX7, cX7_wasTold, 2, (some .boolean), false)
def mX7_readLine : gx_M := (RX7, cX7_readLine, 2, none, false)
def mX7_text : gx_M := (RX7, cX7_text, 2, (some .int), false)
def mX7_fault : gx_M := (RX7, cX7_fault, 1, (some .int), false)
def mX7_isGlove : gx_M := (RX7, cX7_isGlove, 2, (some .boolean), false)
def mX7_isDoor : gx_M := (RX7, cX7_isDoor, 1, (some .boolean), false)
def mX7_isCall : gx_M := (RX7, cX7_isCall, 2, (some .boolean), false)
def mX7_isPart : gx_M := (RX7, cX7_isPart, 1, (some .boolean), false)
def mX7_starts : gx_M := (RX7, cX7_starts, 2, none, false)
def mX7_settles : gx_M := (RX7, cX7_settles, 2, none, false)
def mX7_of : gx_M := (RX7, cX7_of, 3, (some .int), false)
def mX7_becomesOf : gx_M := (RX7, cX7_becomesOf, 4, none, false)
def mX7_isPaired : gx_M := (RX7, cX7_isPaired, 2, (some .boolean), false)
def mX7_isCold : gx_M := (RX7, cX7_isCold, 2, (some .boolean), false)
def mX7_doorOf : gx_M := (RX7, cX7_doorOf, 2, (some .int), false)
def mX7_apart : gx_M := (RX7, cX7_apart, 3, (some .int), false)
def mX7_stepOf : gx_M := (RX7, cX7_stepOf, 6, (some .int), false)
def mX7_gloveGoes : gx_M := (RX7, cX7_gloveGoes, 3, none, false)
def mX7_dayGoesAt : gx_M := (RX7, cX7_dayGoesAt, 3, none, false)
def mX7_nextDoor : gx_M := (RX7, cX7_nextDoor, 1, (some .int), false)
def mX7_daysGo : gx_M := (RX7, cX7_daysGo, 3, none, false)
def mX7_nameMore : gx_M := (RX7, cX7_nameMore, 1, (some .int), false)
def mX7_nameBehind : gx_M := (RX7, cX7_nameBehind, 2, (some .int), false)
def mX7_pairedNow : gx_M := (RX7, cX7_pairedNow, 3, (some .int), false)
def mX7_coldNow : gx_M := (RX7, cX7_coldNow, 3, (some .int), false)
def mX7_metMany : gx_M := (RX7, cX7_metMany, 3, (some .int), false)
def mX7_metBehind : gx_M := (RX7, cX7_metBehind, 2, (some .int), false)
def mX7_rule : gx_M := (RX7, cX7_rule, 2, (some .int), false)
def mX7_glove : gx_M := (RX7, cX7_glove, 3, (some .int), false)
def mX7_door : gx_M := (RX7, cX7_door, 5, (some .int), false)
def mX7_stop : gx_M := (RX7, cX7_stop, 2, (some .int), false)
def mX7_becomes : gx_M := (RX7, cX7_becomes, 4, (some .int), false)
def mX7_wasPaired : gx_M := (RX7, cX7_wasPaired, 2, (some .boolean), false)
def mX7_alter : gx_M := (RX7, cX7_alter, 5, (some .int), false)
def mX7_fame : gx_M := (RX7, cX7_fame, 3, (some .int), false)
def mX7_leave : gx_M := (RX7, cX7_leave, 2, (some .int), false)
def mX7_go : gx_M := (RX7, cX7_go, 2, (some .int), false)
def mX7_call : gx_M := (RX7, cX7_call, 2, (some .int), false)
def mX7_cut : gx_M := (RX7, cX7_cut, 2, (some .int), false)
def mX7_days : gx_M := (RX7, cX7_days, 3, (some .int), false)
def mX7_isFar : gx_M := (RX7, cX7_isFar, 1, (some .boolean), false)
def mX7_runs : gx_M := (RX7, cX7_runs, 6, (some .int), false)
def mX7_ahead : gx_M := (RX7, cX7_ahead, 4, (some .int), false)
def mX7_meets : gx_M := (RX7, cX7_meets, 3, (some .int), false)
def mX7_startsJudging : gx_M := (RX7, cX7_startsJudging, 2, none, false)
def mX7_judges : gx_M := (RX7, cX7_judges, 3, none, false)
def mX7_judged : gx_M := (RX7, cX7_judged, 2, (some .int), false)
def mX7_place : gx_M := (RX7, cX7_place, 5, (some .int), false)
def mX7_extra : gx_M := (RX7, cX7_extra, 4, (some .int), false)
def mX7_swap : gx_M := (RX7, cX7_swap, 5, (some .int), false)
def mX7_shun : gx_M := (RX7, cX7_shun, 5, (some .int), false)
def mX7_need : gx_M := (RX7, cX7_need, 4, (some .int), false)
def mX7_kind : gx_M := (RX7, cX7_kind, 5, (some .int), false)
def mX7_drop : gx_M := (RX7, cX7_drop, 5, (some .int), false)
def mX7_common : gx_M := (RX7, cX7_common, 10, (some .long), false)
def mX7_told : gx_M := (RX7, cX7_told, 7, (some .long), false)
def mX7_findOdds : gx_M := (RX7, cX7_findOdds, 9, none, false)
def mX7_luck : gx_M := (RX7, cX7_luck, 5, (some .long), false)
def mX7_mean : gx_M := (RX7, cX7_mean, 4, (some .long), false)
def mX7_see : gx_M := (RX7, cX7_see, 5, (some .int), false)
def mX7_forget : gx_M := (RX7, cX7_forget, 2, (some .int), false)
def mX7_isSoWith : gx_M := (RX7, cX7_isSoWith, 6, (some .boolean), false)
def mX7_which : gx_M := (RX7, cX7_which, 5, (some .int), false)
def mX7_kinds : gx_M := (RX7, cX7_kinds, 2, (some .int), false)
def mX7_doors : gx_M := (RX7, cX7_doors, 2, (some .int), false)
def mX7_ask : gx_M := (RX7, cX7_ask, 11, (some .int), false)
def mX7_drift : gx_M := (RX7, cX7_drift, 6, (some .int), false)
def mX7_copies : gx_M := (RX7, cX7_copies, 4, none, false)
def mX7_keep : gx_M := (RX7, cX7_keep, 3, (some .int), false)
def mX7_back : gx_M := (RX7, cX7_back, 2, (some .int), false)
def mX7_isSheet : gx_M := (RX7, cX7_isSheet, 2, (some .boolean), false)
def mX7_sheet : gx_M := (RX7, cX7_sheet, 5, (some .int), false)
def mX7_lay : gx_M := (RX7, cX7_lay, 4, (some .int), false)
def mX7_read : gx_M := (RX7, cX7_read, 11, (some .int), false)
def mX7_torn : gx_M := (RX7, cX7_torn, 1, (some .int), false)
def mX7_count : gx_M := (RX7, cX7_count, 5, (some .int), false)
def mJ6_bitCount_0f7a4 : gx_M := (RJ6, cJ6_bitCount_0f7a4, 1, (some .int), false)
def mJ9_abs_0f7a4 : gx_M := (RJ9, cJ9_abs_0f7a4, 1, (some .int), false)
def mJ9_max_7cf53 : gx_M := (RJ9, cJ9_max_7cf53, 2, (some .int), false)
def mJ9_max_f86c9 : gx_M := (RJ9, cJ9_max_f86c9, 4, (some .long), false)
def mJ9_min_7cf53 : gx_M := (RJ9, cJ9_min_7cf53, 2, (some .int), false)
def mJ0_length_8abf5 : gx_M := (RJ0, cJ0_length_8abf5, 1, (some .int), false)
def mJ0_charAt_5068e : gx_M := (RJ0, cJ0_charAt_5068e, 2, (some .char), false)
def mJ0_coder_7d493 : gx_M := (RJ0, cJ0_coder_7d493, 1, (some .byte), false)
def mJ0_isLatin1_aae02 : gx_M := (RJ0, cJ0_isLatin1_aae02, 1, (some .boolean), false)
def mJ0_checkIndex_df160 : gx_M := (RJ0, cJ0_checkIndex_df160, 2, none, false)
def mJ1_charAt_3b067 : gx_M := (RJ1, cJ1_charAt_3b067, 2, (some .char), false)
def mJ2_getChar_3b067 : gx_M := (RJ2, cJ2_getChar_3b067, 2, (some .char), false)
def mJ2_length_9d52b : gx_M := (RJ2, cJ2_length_9d52b, 1, (some .int), false)
def mJ2_charAt_3b067 : gx_M := (RJ2, cJ2_charAt_3b067, 2, (some .char), false)
def mJ2_checkIndex_2214a : gx_M := (RJ2, cJ2_checkIndex_2214a, 2, none, false)
def mJ7_fill_53178 : gx_M := (RJ7, cJ7_fill_53178, 4, none, false)
def mJ3_checkIndex_8e157 : gx_M := (RJ3, cJ3_checkIndex_8e157, 3, (some .int), false)
def mL_law : gx_M := (RL, cL_law, 4, (some .boolean), false)
theorem wc_X6_7 : Cond.classLink RX6 7 RX5 ∈ gx_ws := gx_in (List.mem_of_getElem? (i := 96) (by decide +kernel)) rfl
theorem wc_X6_46 : Cond.classLink RX6 46 RX0 ∈ gx_ws := gx_in (List.mem_of_getElem? (i := 234) (by decide +kernel)) rfl
theorem wc_X6_52 : Cond.classLink RX6 52 RX1 ∈ gx_ws := gx_in (List.mem_of_getElem? (i := 236) (by decide +kernel)) rfl
theorem wf_X6_10 : Cond.fieldLink RX6 10 (TX6 0).1 (TX6 0).2.1 (TX6 0).2.2.1 ∈ gx_ws := gx_in (List.mem_of_getElem? (i := 276) (by decide +kernel)) rfl
theorem wf_X6_19 : Cond.fieldLink RX6 19 (TX6 1).1 (TX6 1).2.1 (TX6 1).2.2.1 ∈ gx_ws := gx_in (List.mem_of_getElem? (i := 277) (by decide +kernel)) rfl
theorem wf_X6_23 : Cond.fieldLink RX6 23 (TX6 2).1 (TX6 2).2.1 (TX6 2).2.2.1 ∈ gx_ws := gx_in (List.mem_of_getElem? (i := 278) (by decide +kernel)) rfl
theorem wf_X6_26 : Cond.fieldLink RX6 26 (TX6 3).1 (TX6 3).2.1 (TX6 3).2.2.1 ∈ gx_ws := gx_in (List.mem_of_getElem? (i := 279) (by decide +kernel)) rfl
theorem wf_X6_33 : Cond.fieldLink RX6 33 (TX6 4).1 (TX6 4).2.1 (TX6 4).2.2.1 ∈ gx_ws := gx_in (List.mem_of_getElem? (i := 280) (by decide +kernel)) rfl
theorem wf_X6_42 : Cond.fieldLink RX6 42 (TX6 5).1 (TX6 5).2.1 (TX6 5).2.2.1 ∈ gx_ws := gx_in (List.mem_of_getElem? (i := 281) (by decide +kernel)) rfl
theorem wf_X6_48 : Cond.fieldLink RX6 48 (TX6 6).1 (TX6 6).2.1 (TX6 6).2.2.1 ∈ gx_ws := gx_in (List.mem_of_getElem? (i := 282) (by decide +kernel)) rfl
theorem wf_X6_54 : Cond.fieldLink RX6 54 (TX6 7).1 (TX6 7).2.1 (TX6 7).2.2.1 ∈ gx_ws := gx_in (List.mem_of_getElem? (i := 283) (by decide +kernel)) rfl
theorem wf_X6_64 : Cond.fieldLink RX6 64 (TX3 1).1 (TX3 1).2.1 (TX3 1).2.2.1 ∈ gx_ws := gx_in (List.mem_of_getElem? (i := 186) (by decide +kernel)) rfl
theorem wf_X6_68 : Cond.fieldLink RX6 68 (TX3 0).1 (TX3 0).2.1 (TX3 0).2.2.1 ∈ gx_ws := gx_in (List.mem_of_getElem? (i := 184) (by decide +kernel)) rfl
theorem wf_X6_76 : Cond.fieldLink RX6 76 (TX4 8).1 (TX4 8).2.1 (TX4 8).2.2.1 ∈ gx_ws := gx_in (List.mem_of_getElem? (i := 210) (by decide +kernel)) rfl
theorem wf_X6_79 : Cond.fieldLink RX6 79 (TX6 8).1 (TX6 8).2.1 (TX6 8).2.2.1 ∈ gx_ws := gx_in (List.mem_of_getElem? (i := 284) (by decide +kernel)) rfl
theorem wf_X6_82 : Cond.fieldLink RX6 82 (TX4 7).1 (TX4 7).2.1 (TX4 7).2.2.1 ∈ gx_ws := gx_in (List.mem_of_getElem? (i := 207) (by decide +kernel)) rfl
theorem wf_X6_89 : Cond.fieldLink RX6 89 (TX2 3).1 (TX2 3).2.1 (TX2 3).2.2.1 ∈ gx_ws := gx_in (List.mem_of_getElem? (i := 166) (by decide +kernel)) rfl
theorem wf_X6_92 : Cond.fieldLink RX6 92 (TX0 2).1 (TX0 2).2.1 (TX0 2).2.2.1 ∈ gx_ws := gx_in (List.mem_of_getElem? (i := 251) (by decide +kernel)) rfl
theorem wf_X6_96 : Cond.fieldLink RX6 96 (TX4 9).1 (TX4 9).2.1 (TX4 9).2.2.1 ∈ gx_ws := gx_in (List.mem_of_getElem? (i := 212) (by decide +kernel)) rfl
theorem wf_X6_99 : Cond.fieldLink RX6 99 (TX5 6).1 (TX5 6).2.1 (TX5 6).2.2.1 ∈ gx_ws := gx_in (List.mem_of_getElem? (i := 121) (by decide +kernel)) rfl
theorem wf_X6_102 : Cond.fieldLink RX6 102 (TX5 10).1 (TX5 10).2.1 (TX5 10).2.2.1 ∈ gx_ws := gx_in (List.mem_of_getElem? (i := 131) (by decide +kernel)) rfl
theorem wf_X6_105 : Cond.fieldLink RX6 105 (TX5 8).1 (TX5 8).2.1 (TX5 8).2.2.1 ∈ gx_ws := gx_in (List.mem_of_getElem? (i := 126) (by decide +kernel)) rfl
theorem wf_X6_108 : Cond.fieldLink RX6 108 (TX5 9).1 (TX5 9).2.1 (TX5 9).2.2.1 ∈ gx_ws := gx_in (List.mem_of_getElem? (i := 129) (by decide +kernel)) rfl
theorem wf_X6_111 : Cond.fieldLink RX6 111 (TX5 5).1 (TX5 5).2.1 (TX5 5).2.2.1 ∈ gx_ws := gx_in (List.mem_of_getElem? (i := 118) (by decide +kernel)) rfl
theorem wf_X6_118 : Cond.fieldLink RX6 118 (TX5 7).1 (TX5 7).2.1 (TX5 7).2.2.1 ∈ gx_ws := gx_in (List.mem_of_getElem? (i := 124) (by decide +kernel)) rfl
theorem wf_X6_132 : Cond.fieldLink RX6 132 (TX5 2).1 (TX5 2).2.1 (TX5 2).2.2.1 ∈ gx_ws := gx_in (List.mem_of_getElem? (i := 110) (by decide +kernel)) rfl
theorem wf_X6_146 : Cond.fieldLink RX6 146 (TX5 0).1 (TX5 0).2.1 (TX5 0).2.2.1 ∈ gx_ws := gx_in (List.mem_of_getElem? (i := 104) (by decide +kernel)) rfl
theorem wf_X6_155 : Cond.fieldLink RX6 155 (TX5 4).1 (TX5 4).2.1 (TX5 4).2.2.1 ∈ gx_ws := gx_in (List.mem_of_getElem? (i := 116) (by decide +kernel)) rfl
theorem wf_X6_176 : Cond.fieldLink RX6 176 (TX5 3).1 (TX5 3).2.1 (TX5 3).2.2.1 ∈ gx_ws := gx_in (List.mem_of_getElem? (i := 113) (by decide +kernel)) rfl
theorem wf_X6_222 : Cond.fieldLink RX6 222 (TX0 0).1 (TX0 0).2.1 (TX0 0).2.2.1 ∈ gx_ws := gx_in (List.mem_of_getElem? (i := 248) (by decide +kernel)) rfl
theorem wf_X6_225 : Cond.fieldLink RX6 225 (TX0 1).1 (TX0 1).2.1 (TX0 1).2.2.1 ∈ gx_ws := gx_in (List.mem_of_getElem? (i := 250) (by decide +kernel)) rfl
theorem wf_X6_239 : Cond.fieldLink RX6 239 (TX1 0).1 (TX1 0).2.1 (TX1 0).2.2.1 ∈ gx_ws := gx_in (List.mem_of_getElem? (i := 265) (by decide +kernel)) rfl
theorem wf_X6_248 : Cond.fieldLink RX6 248 (TX6 9).1 (TX6 9).2.1 (TX6 9).2.2.1 ∈ gx_ws := gx_in (List.mem_of_getElem? (i := 285) (by decide +kernel)) rfl
theorem wf_X6_257 : Cond.fieldLink RX6 257 (TX1 2).1 (TX1 2).2.1 (TX1 2).2.2.1 ∈ gx_ws := gx_in (List.mem_of_getElem? (i := 268) (by decide +kernel)) rfl
theorem wm_X6_1 : Cond.methodLink RX6 1 objectInit ∈ gx_ws := gx_in (List.mem_of_getElem? (i := 93) (by decide +kernel)) rfl
theorem wn_X6_9 : (RX6, 9, yX5_init) ∈ gx_nest := by decide +kernel
theorem wn_X6_18 : (RX6, 18, yX2_init) ∈ gx_nest := by decide +kernel
theorem wn_X6_32 : (RX6, 32, yX3_init) ∈ gx_nest := by decide +kernel
theorem wm_X6_39 : Cond.methodLink RX6 39 yX4_init ∈ gx_ws := gx_in (List.mem_of_getElem? (i := 196) (by decide +kernel)) rfl
theorem wn_X6_58 : (RX6, 58, yX0_init) ∈ gx_nest := by decide +kernel
theorem wn_X6_59 : (RX6, 59, yX1_init) ∈ gx_nest := by decide +kernel
theorem wm_X6_60 : Cond.methodLink RX6 60 yX6_isWithin ∈ gx_ws := gx_in (List.mem_of_getElem? (i := 311) (by decide +kernel)) rfl
theorem wm_X6_136 : Cond.methodLink RX6 136 yX6_farOf ∈ gx_ws := gx_in (List.mem_of_getElem? (i := 489) (by decide +kernel)) rfl
theorem wm_X6_143 : Cond.methodLink RX6 143 yX6_isDoor ∈ gx_ws := gx_in (List.mem_of_getElem? (i := 507) (by decide +kernel)) rfl
theorem wm_X6_207 : Cond.methodLink RX6 207 yJ6_bitCount_0f7a4 ∈ gx_ws := gx_in (List.mem_of_getElem? (i := 721) (by decide +kernel)) rfl
theorem wm_X6_229 : Cond.methodLink RX6 229 yX6_isSheet ∈ gx_ws := gx_in (List.mem_of_getElem? (i := 748) (by decide +kernel)) rfl
theorem wm_X6_260 : Cond.methodLink RX6 260 yX6_sumOf ∈ gx_ws := gx_in (List.mem_of_getElem? (i := 795) (by decide +kernel)) rfl
theorem wm_X6_264 : Cond.methodLink RX6 264 yX6_greatestOf ∈ gx_ws := gx_in (List.mem_of_getElem? (i := 530) (by decide +kernel)) rfl
theorem wm_X6_267 : Cond.methodLink RX6 267 yJ9_abs_0f7a4 ∈ gx_ws := gx_in (List.mem_of_getElem? (i := 492) (by decide +kernel)) rfl
theorem wm_X6_272 : Cond.methodLink RX6 272 yJ9_min_7cf53 ∈ gx_ws := gx_in (List.mem_of_getElem? (i := 495) (by decide +kernel)) rfl
theorem wm_X6_275 : Cond.methodLink RX6 275 yJ9_max_7cf53 ∈ gx_ws := gx_in (List.mem_of_getElem? (i := 603) (by decide +kernel)) rfl
theorem wm_X6_288 : Cond.methodLink RX6 288 yX6_weighedBranches ∈ gx_ws := gx_in (List.mem_of_getElem? (i := 665) (by decide +kernel)) rfl
theorem wm_X6_294 : Cond.methodLink RX6 294 yX6_commonDivisor ∈ gx_ws := gx_in (List.mem_of_getElem? (i := 670) (by decide +kernel)) rfl
theorem wm_X6_298 : Cond.methodLink RX6 298 yJ9_max_f86c9 ∈ gx_ws := gx_in (List.mem_of_getElem? (i := 673) (by decide +kernel)) rfl
theorem wm_X6_72 : Cond.methodLink RX6 72 yX4_takesAll ∈ gx_ws := gx_in (List.mem_of_getElem? (i := 322) (by decide +kernel)) rfl
theorem wm_X6_85 : Cond.methodLink RX6 85 yX5_become ∈ gx_ws := gx_in (List.mem_of_getElem? (i := 449) (by decide +kernel)) rfl
theorem wm_X6_114 : Cond.methodLink RX6 114 yX5_coldOnes ∈ gx_ws := gx_in (List.mem_of_getElem? (i := 464) (by decide +kernel)) rfl
theorem wm_X6_121 : Cond.methodLink RX6 121 yX6_isGlove ∈ gx_ws := gx_in (List.mem_of_getElem? (i := 480) (by decide +kernel)) rfl
theorem wm_X6_125 : Cond.methodLink RX6 125 yX5_partOf ∈ gx_ws := gx_in (List.mem_of_getElem? (i := 484) (by decide +kernel)) rfl
theorem wm_X6_129 : Cond.methodLink RX6 129 yX5_isPaired ∈ gx_ws := gx_in (List.mem_of_getElem? (i := 488) (by decide +kernel)) rfl
theorem wm_X6_139 : Cond.methodLink RX6 139 yX5_stepOf ∈ gx_ws := gx_in (List.mem_of_getElem? (i := 498) (by decide +kernel)) rfl
theorem wm_X6_149 : Cond.methodLink RX6 149 yX5_glovesAt ∈ gx_ws := gx_in (List.mem_of_getElem? (i := 510) (by decide +kernel)) rfl
theorem wm_X6_152 : Cond.methodLink RX6 152 yX6_isCall ∈ gx_ws := gx_in (List.mem_of_getElem? (i := 518) (by decide +kernel)) rfl
theorem wm_X6_158 : Cond.methodLink RX6 158 yX6_refusalOf ∈ gx_ws := gx_in (List.mem_of_getElem? (i := 526) (by decide +kernel)) rfl
theorem wm_X6_162 : Cond.methodLink RX6 162 yX5_putPart ∈ gx_ws := gx_in (List.mem_of_getElem? (i := 533) (by decide +kernel)) rfl
theorem wm_X6_166 : Cond.methodLink RX6 166 yX5_moveMan ∈ gx_ws := gx_in (List.mem_of_getElem? (i := 549) (by decide +kernel)) rfl
theorem wm_X6_170 : Cond.methodLink RX6 170 yX5_passDays ∈ gx_ws := gx_in (List.mem_of_getElem? (i := 565) (by decide +kernel)) rfl
theorem wm_X6_173 : Cond.methodLink RX6 173 yX6_firstPairing ∈ gx_ws := gx_in (List.mem_of_getElem? (i := 583) (by decide +kernel)) rfl
theorem wm_X6_179 : Cond.methodLink RX6 179 yX6_bestDoorOfCall ∈ gx_ws := gx_in (List.mem_of_getElem? (i := 599) (by decide +kernel)) rfl
theorem wm_X6_182 : Cond.methodLink RX6 182 yX6_nameBehind ∈ gx_ws := gx_in (List.mem_of_getElem? (i := 624) (by decide +kernel)) rfl
theorem wm_X6_185 : Cond.methodLink RX6 185 yX6_nameWithSwap ∈ gx_ws := gx_in (List.mem_of_getElem? (i := 628) (by decide +kernel)) rfl
theorem wm_X6_188 : Cond.methodLink RX6 188 yX5_leaveOutCall ∈ gx_ws := gx_in (List.mem_of_getElem? (i := 636) (by decide +kernel)) rfl
theorem wm_X6_191 : Cond.methodLink RX6 191 yX6_mostNamedPart ∈ gx_ws := gx_in (List.mem_of_getElem? (i := 648) (by decide +kernel)) rfl
theorem wm_X6_197 : Cond.methodLink RX6 197 yX6_fractionByOdds ∈ gx_ws := gx_in (List.mem_of_getElem? (i := 661) (by decide +kernel)) rfl
theorem wm_X6_201 : Cond.methodLink RX6 201 yX2_add ∈ gx_ws := gx_in (List.mem_of_getElem? (i := 684) (by decide +kernel)) rfl
theorem wm_X6_204 : Cond.methodLink RX6 204 yX6_partsAsSeen ∈ gx_ws := gx_in (List.mem_of_getElem? (i := 696) (by decide +kernel)) rfl
theorem wm_X6_212 : Cond.methodLink RX6 212 yX6_mostAtOneDoor ∈ gx_ws := gx_in (List.mem_of_getElem? (i := 722) (by decide +kernel)) rfl
theorem wm_X6_216 : Cond.methodLink RX6 216 yX5_passDay ∈ gx_ws := gx_in (List.mem_of_getElem? (i := 668) (by decide +kernel)) rfl
theorem wm_X6_219 : Cond.methodLink RX6 219 yX5_metCount ∈ gx_ws := gx_in (List.mem_of_getElem? (i := 606) (by decide +kernel)) rfl
theorem wm_X6_226 : Cond.methodLink RX6 226 yX2_become ∈ gx_ws := gx_in (List.mem_of_getElem? (i := 735) (by decide +kernel)) rfl
theorem wm_X6_232 : Cond.methodLink RX6 232 yX1_makeNew ∈ gx_ws := gx_in (List.mem_of_getElem? (i := 751) (by decide +kernel)) rfl
theorem wm_X6_236 : Cond.methodLink RX6 236 yX1_faultAt ∈ gx_ws := gx_in (List.mem_of_getElem? (i := 760) (by decide +kernel)) rfl
theorem wm_X6_242 : Cond.methodLink RX6 242 yX1_lowestBits ∈ gx_ws := gx_in (List.mem_of_getElem? (i := 769) (by decide +kernel)) rfl
theorem wm_X6_245 : Cond.methodLink RX6 245 yX1_faultAtPair ∈ gx_ws := gx_in (List.mem_of_getElem? (i := 777) (by decide +kernel)) rfl
theorem wm_X6_251 : Cond.methodLink RX6 251 yX6_imagesKept ∈ gx_ws := gx_in (List.mem_of_getElem? (i := 790) (by decide +kernel)) rfl
theorem wm_X6_254 : Cond.methodLink RX6 254 yX1_isNothing ∈ gx_ws := gx_in (List.mem_of_getElem? (i := 794) (by decide +kernel)) rfl
theorem wm_X6_278 : Cond.methodLink RX6 278 yX6_trialGoesAsSeen ∈ gx_ws := gx_in (List.mem_of_getElem? (i := 700) (by decide +kernel)) rfl
theorem wm_X6_281 : Cond.methodLink RX6 281 yX2_lastDay ∈ gx_ws := gx_in (List.mem_of_getElem? (i := 704) (by decide +kernel)) rfl
theorem wm_X6_284 : Cond.methodLink RX6 284 yX2_fits ∈ gx_ws := gx_in (List.mem_of_getElem? (i := 709) (by decide +kernel)) rfl
theorem wd_X6_215 : Cond.constant RX6 215 (1103515245) ∈ gx_ws := gx_in (List.mem_of_getElem? (i := 730) (by decide +kernel)) rfl
theorem wd_X6_195 : Cond.constantLong RX6 195 (-1) ∈ gx_ws := gx_in (List.mem_of_getElem? (i := 660) (by decide +kernel)) rfl
theorem wd_X6_292 : Cond.constantLong RX6 292 (10) ∈ gx_ws := gx_in (List.mem_of_getElem? (i := 669) (by decide +kernel)) rfl
theorem wc_X6_16 : Cond.classLink RX6 16 RX2 ∈ gx_ws := gx_in (List.mem_of_getElem? (i := 156) (by decide +kernel)) rfl
theorem wc_X6_30 : Cond.classLink RX6 30 RX3 ∈ gx_ws := gx_in (List.mem_of_getElem? (i := 177) (by decide +kernel)) rfl
theorem wc_X6_37 : Cond.classLink RX6 37 RX4 ∈ gx_ws := gx_in (List.mem_of_getElem? (i := 194) (by decide +kernel)) rfl
theorem wm_X0_1 : Cond.methodLink RX0 1 objectInit ∈ gx_ws := gx_in (List.mem_of_getElem? (i := 242) (by decide +kernel)) rfl
theorem wn_X0_9 : (RX0, 9, yX5_init) ∈ gx_nest := by decide +kernel
theorem wn_X0_18 : (RX0, 18, yX2_init) ∈ gx_nest := by decide +kernel
theorem wc_X0_7 : Cond.classLink RX0 7 RX5 ∈ gx_ws := gx_in (List.mem_of_getElem? (i := 243) (by decide +kernel)) rfl
theorem wc_X0_16 : Cond.classLink RX0 16 RX2 ∈ gx_ws := gx_in (List.mem_of_getElem? (i := 245) (by decide +kernel)) rfl
theorem wf_X0_10 : Cond.fieldLink RX0 10 (TX0 0).1 (TX0 0).2.1 (TX0 0).2.2.1 ∈ gx_ws := gx_in (List.mem_of_getElem? (i := 247) (by decide +kernel)) rfl
theorem wf_X0_19 : Cond.fieldLink RX0 19 (TX0 1).1 (TX0 1).2.1 (TX0 1).2.2.1 ∈ gx_ws := gx_in (List.mem_of_getElem? (i := 249) (by decide +kernel)) rfl
theorem wf_X1_9 : Cond.fieldLink RX1 9 (TX1 0).1 (TX1 0).2.1 (TX1 0).2.2.1 ∈ gx_ws := gx_in (List.mem_of_getElem? (i := 264) (by decide +kernel)) rfl
theorem wf_X1_15 : Cond.fieldLink RX1 15 (TX1 1).1 (TX1 1).2.1 (TX1 1).2.2.1 ∈ gx_ws := gx_in (List.mem_of_getElem? (i := 266) (by decide +kernel)) rfl
theorem wf_X1_25 : Cond.fieldLink RX1 25 (TX1 2).1 (TX1 2).2.1 (TX1 2).2.2.1 ∈ gx_ws := gx_in (List.mem_of_getElem? (i := 267) (by decide +kernel)) rfl
theorem wm_X1_3 : Cond.methodLink RX1 3 objectInit ∈ gx_ws := gx_in (List.mem_of_getElem? (i := 263) (by decide +kernel)) rfl
theorem wm_X1_19 : Cond.methodLink RX1 19 yJ7_fill_53178 ∈ gx_ws := gx_in (List.mem_of_getElem? (i := 755) (by decide +kernel)) rfl
theorem wn_X1_32 : (RX1, 32, yX6_isWithin) ∈ gx_nest := by decide +kernel
theorem wm_X1_28 : Cond.methodLink RX1 28 yX1_isNothing ∈ gx_ws := gx_in (List.mem_of_getElem? (i := 764) (by decide +kernel)) rfl
theorem wm_X1_36 : Cond.methodLink RX1 36 yX1_faultAt ∈ gx_ws := gx_in (List.mem_of_getElem? (i := 781) (by decide +kernel)) rfl
theorem wf_X2_9 : Cond.fieldLink RX2 9 (TX2 0).1 (TX2 0).2.1 (TX2 0).2.2.1 ∈ gx_ws := gx_in (List.mem_of_getElem? (i := 162) (by decide +kernel)) rfl
theorem wf_X2_15 : Cond.fieldLink RX2 15 (TX2 1).1 (TX2 1).2.1 (TX2 1).2.2.1 ∈ gx_ws := gx_in (List.mem_of_getElem? (i := 163) (by decide +kernel)) rfl
theorem wf_X2_18 : Cond.fieldLink RX2 18 (TX2 2).1 (TX2 2).2.1 (TX2 2).2.2.1 ∈ gx_ws := gx_in (List.mem_of_getElem? (i := 164) (by decide +kernel)) rfl
theorem wf_X2_27 : Cond.fieldLink RX2 27 (TX2 3).1 (TX2 3).2.1 (TX2 3).2.2.1 ∈ gx_ws := gx_in (List.mem_of_getElem? (i := 165) (by decide +kernel)) rfl
theorem wf_X2_37 : Cond.fieldLink RX2 37 (TX5 2).1 (TX5 2).2.1 (TX5 2).2.2.1 ∈ gx_ws := gx_in (List.mem_of_getElem? (i := 108) (by decide +kernel)) rfl
theorem wm_X2_3 : Cond.methodLink RX2 3 objectInit ∈ gx_ws := gx_in (List.mem_of_getElem? (i := 161) (by decide +kernel)) rfl
theorem wm_X2_21 : Cond.methodLink RX2 21 arraycopyName ∈ gx_ws := gx_in (List.mem_of_getElem? (i := 739) (by decide +kernel)) rfl
theorem wm_X2_31 : Cond.methodLink RX2 31 yJ9_max_7cf53 ∈ gx_ws := gx_in (List.mem_of_getElem? (i := 708) (by decide +kernel)) rfl
theorem wm_X3_3 : Cond.methodLink RX3 3 objectInit ∈ gx_ws := gx_in (List.mem_of_getElem? (i := 182) (by decide +kernel)) rfl
theorem wf_X3_9 : Cond.fieldLink RX3 9 (TX3 0).1 (TX3 0).2.1 (TX3 0).2.2.1 ∈ gx_ws := gx_in (List.mem_of_getElem? (i := 183) (by decide +kernel)) rfl
theorem wf_X4_9 : Cond.fieldLink RX4 9 (TX4 0).1 (TX4 0).2.1 (TX4 0).2.2.1 ∈ gx_ws := gx_in (List.mem_of_getElem? (i := 200) (by decide +kernel)) rfl
theorem wf_X4_15 : Cond.fieldLink RX4 15 (TX4 1).1 (TX4 1).2.1 (TX4 1).2.2.1 ∈ gx_ws := gx_in (List.mem_of_getElem? (i := 201) (by decide +kernel)) rfl
theorem wf_X4_24 : Cond.fieldLink RX4 24 (TX4 2).1 (TX4 2).2.1 (TX4 2).2.2.1 ∈ gx_ws := gx_in (List.mem_of_getElem? (i := 202) (by decide +kernel)) rfl
theorem wf_X4_28 : Cond.fieldLink RX4 28 (TX4 5).1 (TX4 5).2.1 (TX4 5).2.2.1 ∈ gx_ws := gx_in (List.mem_of_getElem? (i := 205) (by decide +kernel)) rfl
theorem wf_X4_34 : Cond.fieldLink RX4 34 (TX4 9).1 (TX4 9).2.1 (TX4 9).2.2.1 ∈ gx_ws := gx_in (List.mem_of_getElem? (i := 211) (by decide +kernel)) rfl
theorem wf_X4_41 : Cond.fieldLink RX4 41 (TX4 3).1 (TX4 3).2.1 (TX4 3).2.2.1 ∈ gx_ws := gx_in (List.mem_of_getElem? (i := 203) (by decide +kernel)) rfl
theorem wf_X4_58 : Cond.fieldLink RX4 58 (TX5 0).1 (TX5 0).2.1 (TX5 0).2.2.1 ∈ gx_ws := gx_in (List.mem_of_getElem? (i := 103) (by decide +kernel)) rfl
theorem wf_X4_72 : Cond.fieldLink RX4 72 (TX5 6).1 (TX5 6).2.1 (TX5 6).2.2.1 ∈ gx_ws := gx_in (List.mem_of_getElem? (i := 120) (by decide +kernel)) rfl
theorem wf_X4_75 : Cond.fieldLink RX4 75 (TX5 1).1 (TX5 1).2.1 (TX5 1).2.2.1 ∈ gx_ws := gx_in (List.mem_of_getElem? (i := 106) (by decide +kernel)) rfl
theorem wf_X4_81 : Cond.fieldLink RX4 81 (TX5 2).1 (TX5 2).2.1 (TX5 2).2.2.1 ∈ gx_ws := gx_in (List.mem_of_getElem? (i := 109) (by decide +kernel)) rfl
theorem wf_X4_84 : Cond.fieldLink RX4 84 (TX4 4).1 (TX4 4).2.1 (TX4 4).2.2.1 ∈ gx_ws := gx_in (List.mem_of_getElem? (i := 204) (by decide +kernel)) rfl
theorem wf_X4_87 : Cond.fieldLink RX4 87 (TX5 3).1 (TX5 3).2.1 (TX5 3).2.2.1 ∈ gx_ws := gx_in (List.mem_of_getElem? (i := 112) (by decide +kernel)) rfl
theorem wf_X4_93 : Cond.fieldLink RX4 93 (TX5 4).1 (TX5 4).2.1 (TX5 4).2.2.1 ∈ gx_ws := gx_in (List.mem_of_getElem? (i := 115) (by decide +kernel)) rfl
theorem wf_X4_96 : Cond.fieldLink RX4 96 (TX4 6).1 (TX4 6).2.1 (TX4 6).2.2.1 ∈ gx_ws := gx_in (List.mem_of_getElem? (i := 206) (by decide +kernel)) rfl
theorem wf_X4_105 : Cond.fieldLink RX4 105 (TX3 1).1 (TX3 1).2.1 (TX3 1).2.2.1 ∈ gx_ws := gx_in (List.mem_of_getElem? (i := 187) (by decide +kernel)) rfl
theorem wf_X4_110 : Cond.fieldLink RX4 110 (TX3 0).1 (TX3 0).2.1 (TX3 0).2.2.1 ∈ gx_ws := gx_in (List.mem_of_getElem? (i := 185) (by decide +kernel)) rfl
theorem wf_X4_114 : Cond.fieldLink RX4 114 (TX4 7).1 (TX4 7).2.1 (TX4 7).2.2.1 ∈ gx_ws := gx_in (List.mem_of_getElem? (i := 208) (by decide +kernel)) rfl
theorem wm_X4_3 : Cond.methodLink RX4 3 objectInit ∈ gx_ws := gx_in (List.mem_of_getElem? (i := 199) (by decide +kernel)) rfl
theorem wm_X4_117 : Cond.methodLink RX4 117 yX4_isLetter ∈ gx_ws := gx_in (List.mem_of_getElem? (i := 337) (by decide +kernel)) rfl
theorem wm_X4_123 : Cond.methodLink RX4 123 yX4_isFigure ∈ gx_ws := gx_in (List.mem_of_getElem? (i := 344) (by decide +kernel)) rfl
theorem wm_X4_129 : Cond.methodLink RX4 129 yX4_spellingOf ∈ gx_ws := gx_in (List.mem_of_getElem? (i := 363) (by decide +kernel)) rfl
theorem wm_X4_19 : Cond.methodLink RX4 19 yX5_makeEmpty ∈ gx_ws := gx_in (List.mem_of_getElem? (i := 326) (by decide +kernel)) rfl
theorem wm_X4_37 : Cond.methodLink RX4 37 yX4_readsToken ∈ gx_ws := gx_in (List.mem_of_getElem? (i := 333) (by decide +kernel)) rfl
theorem wm_X4_44 : Cond.methodLink RX4 44 yX4_takesLine ∈ gx_ws := gx_in (List.mem_of_getElem? (i := 355) (by decide +kernel)) rfl
theorem wm_X4_47 : Cond.methodLink RX4 47 yX4_wordRead ∈ gx_ws := gx_in (List.mem_of_getElem? (i := 359) (by decide +kernel)) rfl
theorem wm_X4_51 : Cond.methodLink RX4 51 yX4_refuses ∈ gx_ws := gx_in (List.mem_of_getElem? (i := 351) (by decide +kernel)) rfl
theorem wm_X4_55 : Cond.methodLink RX4 55 yX4_takesGlove ∈ gx_ws := gx_in (List.mem_of_getElem? (i := 425) (by decide +kernel)) rfl
theorem wm_X4_62 : Cond.methodLink RX4 62 yX4_takesRow ∈ gx_ws := gx_in (List.mem_of_getElem? (i := 437) (by decide +kernel)) rfl
theorem wm_X4_66 : Cond.methodLink RX4 66 yX4_takesRoute ∈ gx_ws := gx_in (List.mem_of_getElem? (i := 441) (by decide +kernel)) rfl
theorem wm_X4_69 : Cond.methodLink RX4 69 yX4_takesMan ∈ gx_ws := gx_in (List.mem_of_getElem? (i := 445) (by decide +kernel)) rfl
theorem wm_X4_78 : Cond.methodLink RX4 78 yX4_takesNumber ∈ gx_ws := gx_in (List.mem_of_getElem? (i := 429) (by decide +kernel)) rfl
theorem wm_X4_90 : Cond.methodLink RX4 90 yX4_takesMark ∈ gx_ws := gx_in (List.mem_of_getElem? (i := 433) (by decide +kernel)) rfl
theorem wm_X4_120 : Cond.methodLink RX4 120 yX4_readsWord ∈ gx_ws := gx_in (List.mem_of_getElem? (i := 340) (by decide +kernel)) rfl
theorem wm_X4_126 : Cond.methodLink RX4 126 yX4_readsNumber ∈ gx_ws := gx_in (List.mem_of_getElem? (i := 347) (by decide +kernel)) rfl
theorem wm_X4_133 : Cond.methodLink RX4 133 yX4_isSpelled ∈ gx_ws := gx_in (List.mem_of_getElem? (i := 373) (by decide +kernel)) rfl
theorem wm_X4_137 : Cond.methodLink RX4 137 yJ0_length_8abf5 ∈ gx_ws := gx_in (List.mem_of_getElem? (i := 377) (by decide +kernel)) rfl
theorem wm_X4_141 : Cond.methodLink RX4 141 yJ0_charAt_5068e ∈ gx_ws := gx_in (List.mem_of_getElem? (i := 387) (by decide +kernel)) rfl
theorem wf_X4_31 : Cond.fieldLink RX4 31 (TX4 8).1 (TX4 8).2.1 (TX4 8).2.2.1 ∈ gx_ws := gx_in (List.mem_of_getElem? (i := 209) (by decide +kernel)) rfl
theorem wf_X4_99 : Cond.fieldLink RX4 99 (TX5 7).1 (TX5 7).2.1 (TX5 7).2.2.1 ∈ gx_ws := gx_in (List.mem_of_getElem? (i := 123) (by decide +kernel)) rfl
theorem wf_X4_102 : Cond.fieldLink RX4 102 (TX5 8).1 (TX5 8).2.1 (TX5 8).2.2.1 ∈ gx_ws := gx_in (List.mem_of_getElem? (i := 127) (by decide +kernel)) rfl
theorem wf_X5_9 : Cond.fieldLink RX5 9 (TX5 0).1 (TX5 0).2.1 (TX5 0).2.2.1 ∈ gx_ws := gx_in (List.mem_of_getElem? (i := 102) (by decide +kernel)) rfl
theorem wf_X5_15 : Cond.fieldLink RX5 15 (TX5 1).1 (TX5 1).2.1 (TX5 1).2.2.1 ∈ gx_ws := gx_in (List.mem_of_getElem? (i := 105) (by decide +kernel)) rfl
theorem wf_X5_18 : Cond.fieldLink RX5 18 (TX5 2).1 (TX5 2).2.1 (TX5 2).2.2.1 ∈ gx_ws := gx_in (List.mem_of_getElem? (i := 107) (by decide +kernel)) rfl
theorem wf_X5_21 : Cond.fieldLink RX5 21 (TX5 3).1 (TX5 3).2.1 (TX5 3).2.2.1 ∈ gx_ws := gx_in (List.mem_of_getElem? (i := 111) (by decide +kernel)) rfl
theorem wf_X5_24 : Cond.fieldLink RX5 24 (TX5 4).1 (TX5 4).2.1 (TX5 4).2.2.1 ∈ gx_ws := gx_in (List.mem_of_getElem? (i := 114) (by decide +kernel)) rfl
theorem wf_X5_33 : Cond.fieldLink RX5 33 (TX5 5).1 (TX5 5).2.1 (TX5 5).2.2.1 ∈ gx_ws := gx_in (List.mem_of_getElem? (i := 117) (by decide +kernel)) rfl
theorem wf_X5_37 : Cond.fieldLink RX5 37 (TX5 6).1 (TX5 6).2.1 (TX5 6).2.2.1 ∈ gx_ws := gx_in (List.mem_of_getElem? (i := 119) (by decide +kernel)) rfl
theorem wf_X5_40 : Cond.fieldLink RX5 40 (TX5 7).1 (TX5 7).2.1 (TX5 7).2.2.1 ∈ gx_ws := gx_in (List.mem_of_getElem? (i := 122) (by decide +kernel)) rfl
theorem wf_X5_43 : Cond.fieldLink RX5 43 (TX5 8).1 (TX5 8).2.1 (TX5 8).2.2.1 ∈ gx_ws := gx_in (List.mem_of_getElem? (i := 125) (by decide +kernel)) rfl
theorem wf_X5_46 : Cond.fieldLink RX5 46 (TX5 9).1 (TX5 9).2.1 (TX5 9).2.2.1 ∈ gx_ws := gx_in (List.mem_of_getElem? (i := 128) (by decide +kernel)) rfl
theorem wf_X5_49 : Cond.fieldLink RX5 49 (TX5 10).1 (TX5 10).2.1 (TX5 10).2.2.1 ∈ gx_ws := gx_in (List.mem_of_getElem? (i := 130) (by decide +kernel)) rfl
theorem wm_X5_3 : Cond.methodLink RX5 3 objectInit ∈ gx_ws := gx_in (List.mem_of_getElem? (i := 101) (by decide +kernel)) rfl
theorem wm_X5_27 : Cond.methodLink RX5 27 yJ7_fill_53178 ∈ gx_ws := gx_in (List.mem_of_getElem? (i := 330) (by decide +kernel)) rfl
theorem wm_X5_52 : Cond.methodLink RX5 52 arraycopyName ∈ gx_ws := gx_in (List.mem_of_getElem? (i := 453) (by decide +kernel)) rfl
theorem wm_X5_65 : Cond.methodLink RX5 65 yJ6_bitCount_0f7a4 ∈ gx_ws := gx_in (List.mem_of_getElem? (i := 610) (by decide +kernel)) rfl
theorem wn_X5_71 : (RX5, 71, yX6_farOf) ∈ gx_nest := by decide +kernel
theorem wm_X5_82 : Cond.methodLink RX5 82 yJ9_min_7cf53 ∈ gx_ws := gx_in (List.mem_of_getElem? (i := 577) (by decide +kernel)) rfl
theorem wm_X5_58 : Cond.methodLink RX5 58 yX5_isPaired ∈ gx_ws := gx_in (List.mem_of_getElem? (i := 472) (by decide +kernel)) rfl
theorem wm_X5_62 : Cond.methodLink RX5 62 yX5_isCold ∈ gx_ws := gx_in (List.mem_of_getElem? (i := 468) (by decide +kernel)) rfl
theorem wm_X5_75 : Cond.methodLink RX5 75 yX5_passDay ∈ gx_ws := gx_in (List.mem_of_getElem? (i := 569) (by decide +kernel)) rfl
theorem wm_X5_79 : Cond.methodLink RX5 79 yX5_passDayOfGlove ∈ gx_ws := gx_in (List.mem_of_getElem? (i := 573) (by decide +kernel)) rfl
theorem wm_X5_87 : Cond.methodLink RX5 87 yX5_stepOf ∈ gx_ws := gx_in (List.mem_of_getElem? (i := 578) (by decide +kernel)) rfl
theorem wm_L_9 : Cond.methodLink RL 9 yX6_init ∈ gx_ws := gx_in (List.mem_of_getElem? (i := 90) (by decide +kernel)) rfl
theorem wm_L_12 : Cond.methodLink RL 12 yX7_init ∈ gx_ws := gx_in (List.mem_of_getElem? (i := 800) (by decide +kernel)) rfl
theorem wm_L_13 : Cond.methodLink RL 13 yX6_feed ∈ gx_ws := gx_in (List.mem_of_getElem? (i := 307) (by decide +kernel)) rfl
theorem wm_L_17 : Cond.methodLink RL 17 yX7_feed ∈ gx_ws := gx_in (List.mem_of_getElem? (i := 904) (by decide +kernel)) rfl
theorem wm_L_18 : Cond.methodLink RL 18 yX6_end ∈ gx_ws := gx_in (List.mem_of_getElem? (i := 314) (by decide +kernel)) rfl
theorem wm_L_21 : Cond.methodLink RL 21 yX7_end ∈ gx_ws := gx_in (List.mem_of_getElem? (i := 912) (by decide +kernel)) rfl
theorem wm_L_22 : Cond.methodLink RL 22 yX6_text ∈ gx_ws := gx_in (List.mem_of_getElem? (i := 318) (by decide +kernel)) rfl
theorem wm_L_26 : Cond.methodLink RL 26 yX7_text ∈ gx_ws := gx_in (List.mem_of_getElem? (i := 916) (by decide +kernel)) rfl
theorem wm_L_27 : Cond.methodLink RL 27 yX6_fault ∈ gx_ws := gx_in (List.mem_of_getElem? (i := 456) (by decide +kernel)) rfl
theorem wm_L_30 : Cond.methodLink RL 30 yX7_fault ∈ gx_ws := gx_in (List.mem_of_getElem? (i := 976) (by decide +kernel)) rfl
theorem wm_L_31 : Cond.methodLink RL 31 yX6_rule ∈ gx_ws := gx_in (List.mem_of_getElem? (i := 460) (by decide +kernel)) rfl
theorem wm_L_34 : Cond.methodLink RL 34 yX7_rule ∈ gx_ws := gx_in (List.mem_of_getElem? (i := 980) (by decide +kernel)) rfl
theorem wm_L_35 : Cond.methodLink RL 35 yX6_glove ∈ gx_ws := gx_in (List.mem_of_getElem? (i := 476) (by decide +kernel)) rfl
theorem wm_L_39 : Cond.methodLink RL 39 yX7_glove ∈ gx_ws := gx_in (List.mem_of_getElem? (i := 1011) (by decide +kernel)) rfl
theorem wm_L_40 : Cond.methodLink RL 40 yX6_door ∈ gx_ws := gx_in (List.mem_of_getElem? (i := 503) (by decide +kernel)) rfl
theorem wm_L_43 : Cond.methodLink RL 43 yX7_door ∈ gx_ws := gx_in (List.mem_of_getElem? (i := 1030) (by decide +kernel)) rfl
theorem wm_L_44 : Cond.methodLink RL 44 yX6_stop ∈ gx_ws := gx_in (List.mem_of_getElem? (i := 514) (by decide +kernel)) rfl
theorem wm_L_47 : Cond.methodLink RL 47 yX7_stop ∈ gx_ws := gx_in (List.mem_of_getElem? (i := 1041) (by decide +kernel)) rfl
theorem wm_L_48 : Cond.methodLink RL 48 yX6_alter ∈ gx_ws := gx_in (List.mem_of_getElem? (i := 522) (by decide +kernel)) rfl
theorem wm_L_52 : Cond.methodLink RL 52 yX7_alter ∈ gx_ws := gx_in (List.mem_of_getElem? (i := 1049) (by decide +kernel)) rfl
theorem wm_L_53 : Cond.methodLink RL 53 yX6_fame ∈ gx_ws := gx_in (List.mem_of_getElem? (i := 537) (by decide +kernel)) rfl
theorem wm_L_56 : Cond.methodLink RL 56 yX7_fame ∈ gx_ws := gx_in (List.mem_of_getElem? (i := 1063) (by decide +kernel)) rfl
theorem wm_L_57 : Cond.methodLink RL 57 yX6_leave ∈ gx_ws := gx_in (List.mem_of_getElem? (i := 541) (by decide +kernel)) rfl
theorem wm_L_60 : Cond.methodLink RL 60 yX7_leave ∈ gx_ws := gx_in (List.mem_of_getElem? (i := 1068) (by decide +kernel)) rfl
theorem wm_L_61 : Cond.methodLink RL 61 yX6_go ∈ gx_ws := gx_in (List.mem_of_getElem? (i := 545) (by decide +kernel)) rfl
theorem wm_L_64 : Cond.methodLink RL 64 yX7_go ∈ gx_ws := gx_in (List.mem_of_getElem? (i := 1072) (by decide +kernel)) rfl
theorem wm_L_65 : Cond.methodLink RL 65 yX6_call ∈ gx_ws := gx_in (List.mem_of_getElem? (i := 553) (by decide +kernel)) rfl
theorem wm_L_68 : Cond.methodLink RL 68 yX7_call ∈ gx_ws := gx_in (List.mem_of_getElem? (i := 1076) (by decide +kernel)) rfl
theorem wm_L_69 : Cond.methodLink RL 69 yX6_cut ∈ gx_ws := gx_in (List.mem_of_getElem? (i := 557) (by decide +kernel)) rfl
theorem wm_L_72 : Cond.methodLink RL 72 yX7_cut ∈ gx_ws := gx_in (List.mem_of_getElem? (i := 1080) (by decide +kernel)) rfl
theorem wm_L_73 : Cond.methodLink RL 73 yX6_days ∈ gx_ws := gx_in (List.mem_of_getElem? (i := 561) (by decide +kernel)) rfl
theorem wm_L_76 : Cond.methodLink RL 76 yX7_days ∈ gx_ws := gx_in (List.mem_of_getElem? (i := 1084) (by decide +kernel)) rfl
theorem wm_L_77 : Cond.methodLink RL 77 yX6_runs ∈ gx_ws := gx_in (List.mem_of_getElem? (i := 579) (by decide +kernel)) rfl
theorem wm_L_80 : Cond.methodLink RL 80 yX7_runs ∈ gx_ws := gx_in (List.mem_of_getElem? (i := 1124) (by decide +kernel)) rfl
theorem wm_L_81 : Cond.methodLink RL 81 yX6_ahead ∈ gx_ws := gx_in (List.mem_of_getElem? (i := 587) (by decide +kernel)) rfl
theorem wm_L_84 : Cond.methodLink RL 84 yX7_ahead ∈ gx_ws := gx_in (List.mem_of_getElem? (i := 1133) (by decide +kernel)) rfl
theorem wm_L_85 : Cond.methodLink RL 85 yX6_meets ∈ gx_ws := gx_in (List.mem_of_getElem? (i := 591) (by decide +kernel)) rfl
theorem wm_L_88 : Cond.methodLink RL 88 yX7_meets ∈ gx_ws := gx_in (List.mem_of_getElem? (i := 1137) (by decide +kernel)) rfl
theorem wm_L_89 : Cond.methodLink RL 89 yX6_place ∈ gx_ws := gx_in (List.mem_of_getElem? (i := 595) (by decide +kernel)) rfl
theorem wm_L_92 : Cond.methodLink RL 92 yX7_place ∈ gx_ws := gx_in (List.mem_of_getElem? (i := 1141) (by decide +kernel)) rfl
theorem wm_L_93 : Cond.methodLink RL 93 yX6_extra ∈ gx_ws := gx_in (List.mem_of_getElem? (i := 616) (by decide +kernel)) rfl
theorem wm_L_96 : Cond.methodLink RL 96 yX7_extra ∈ gx_ws := gx_in (List.mem_of_getElem? (i := 1165) (by decide +kernel)) rfl
theorem wm_L_97 : Cond.methodLink RL 97 yX6_swap ∈ gx_ws := gx_in (List.mem_of_getElem? (i := 620) (by decide +kernel)) rfl
theorem wm_L_100 : Cond.methodLink RL 100 yX7_swap ∈ gx_ws := gx_in (List.mem_of_getElem? (i := 1169) (by decide +kernel)) rfl
theorem wm_L_101 : Cond.methodLink RL 101 yX6_shun ∈ gx_ws := gx_in (List.mem_of_getElem? (i := 632) (by decide +kernel)) rfl
theorem wm_L_104 : Cond.methodLink RL 104 yX7_shun ∈ gx_ws := gx_in (List.mem_of_getElem? (i := 1173) (by decide +kernel)) rfl
theorem wm_L_105 : Cond.methodLink RL 105 yX6_need ∈ gx_ws := gx_in (List.mem_of_getElem? (i := 640) (by decide +kernel)) rfl
theorem wm_L_108 : Cond.methodLink RL 108 yX7_need ∈ gx_ws := gx_in (List.mem_of_getElem? (i := 1177) (by decide +kernel)) rfl
theorem wm_L_109 : Cond.methodLink RL 109 yX6_kind ∈ gx_ws := gx_in (List.mem_of_getElem? (i := 644) (by decide +kernel)) rfl
theorem wm_L_112 : Cond.methodLink RL 112 yX7_kind ∈ gx_ws := gx_in (List.mem_of_getElem? (i := 1181) (by decide +kernel)) rfl
theorem wm_L_113 : Cond.methodLink RL 113 yX6_drop ∈ gx_ws := gx_in (List.mem_of_getElem? (i := 652) (by decide +kernel)) rfl
theorem wm_L_116 : Cond.methodLink RL 116 yX7_drop ∈ gx_ws := gx_in (List.mem_of_getElem? (i := 1185) (by decide +kernel)) rfl
theorem wm_L_117 : Cond.methodLink RL 117 yX6_luck ∈ gx_ws := gx_in (List.mem_of_getElem? (i := 656) (by decide +kernel)) rfl
theorem wm_L_121 : Cond.methodLink RL 121 yX7_luck ∈ gx_ws := gx_in (List.mem_of_getElem? (i := 1189) (by decide +kernel)) rfl
theorem wm_L_122 : Cond.methodLink RL 122 yX6_mean ∈ gx_ws := gx_in (List.mem_of_getElem? (i := 676) (by decide +kernel)) rfl
theorem wm_L_126 : Cond.methodLink RL 126 yX7_mean ∈ gx_ws := gx_in (List.mem_of_getElem? (i := 1206) (by decide +kernel)) rfl
theorem wm_L_127 : Cond.methodLink RL 127 yX6_see ∈ gx_ws := gx_in (List.mem_of_getElem? (i := 680) (by decide +kernel)) rfl
theorem wm_L_130 : Cond.methodLink RL 130 yX7_see ∈ gx_ws := gx_in (List.mem_of_getElem? (i := 1210) (by decide +kernel)) rfl
theorem wm_L_131 : Cond.methodLink RL 131 yX6_forget ∈ gx_ws := gx_in (List.mem_of_getElem? (i := 688) (by decide +kernel)) rfl
theorem wm_L_134 : Cond.methodLink RL 134 yX7_forget ∈ gx_ws := gx_in (List.mem_of_getElem? (i := 1214) (by decide +kernel)) rfl
theorem wm_L_135 : Cond.methodLink RL 135 yX6_kinds ∈ gx_ws := gx_in (List.mem_of_getElem? (i := 692) (by decide +kernel)) rfl
theorem wm_L_138 : Cond.methodLink RL 138 yX7_kinds ∈ gx_ws := gx_in (List.mem_of_getElem? (i := 1218) (by decide +kernel)) rfl
theorem wm_L_139 : Cond.methodLink RL 139 yX6_doors ∈ gx_ws := gx_in (List.mem_of_getElem? (i := 713) (by decide +kernel)) rfl
theorem wm_L_142 : Cond.methodLink RL 142 yX7_doors ∈ gx_ws := gx_in (List.mem_of_getElem? (i := 1230) (by decide +kernel)) rfl
theorem wm_L_143 : Cond.methodLink RL 143 yX6_ask ∈ gx_ws := gx_in (List.mem_of_getElem? (i := 717) (by decide +kernel)) rfl
theorem wm_L_146 : Cond.methodLink RL 146 yX7_ask ∈ gx_ws := gx_in (List.mem_of_getElem? (i := 1234) (by decide +kernel)) rfl
theorem wm_L_147 : Cond.methodLink RL 147 yX6_drift ∈ gx_ws := gx_in (List.mem_of_getElem? (i := 726) (by decide +kernel)) rfl
theorem wm_L_150 : Cond.methodLink RL 150 yX7_drift ∈ gx_ws := gx_in (List.mem_of_getElem? (i := 1238) (by decide +kernel)) rfl
theorem wm_L_151 : Cond.methodLink RL 151 yX6_keep ∈ gx_ws := gx_in (List.mem_of_getElem? (i := 731) (by decide +kernel)) rfl
theorem wm_L_154 : Cond.methodLink RL 154 yX7_keep ∈ gx_ws := gx_in (List.mem_of_getElem? (i := 1243) (by decide +kernel)) rfl
theorem wm_L_155 : Cond.methodLink RL 155 yX6_back ∈ gx_ws := gx_in (List.mem_of_getElem? (i := 740) (by decide +kernel)) rfl
theorem wm_L_158 : Cond.methodLink RL 158 yX7_back ∈ gx_ws := gx_in (List.mem_of_getElem? (i := 1251) (by decide +kernel)) rfl
theorem wm_L_159 : Cond.methodLink RL 159 yX6_sheet ∈ gx_ws := gx_in (List.mem_of_getElem? (i := 744) (by decide +kernel)) rfl
theorem wm_L_162 : Cond.methodLink RL 162 yX7_sheet ∈ gx_ws := gx_in (List.mem_of_getElem? (i := 1255) (by decide +kernel)) rfl
theorem wm_L_163 : Cond.methodLink RL 163 yX6_lay ∈ gx_ws := gx_in (List.mem_of_getElem? (i := 756) (by decide +kernel)) rfl
theorem wm_L_166 : Cond.methodLink RL 166 yX7_lay ∈ gx_ws := gx_in (List.mem_of_getElem? (i := 1263) (by decide +kernel)) rfl
theorem wm_L_167 : Cond.methodLink RL 167 yX6_read ∈ gx_ws := gx_in (List.mem_of_getElem? (i := 773) (by decide +kernel)) rfl
theorem wm_L_171 : Cond.methodLink RL 171 yX7_read ∈ gx_ws := gx_in (List.mem_of_getElem? (i := 1267) (by decide +kernel)) rfl
theorem wm_L_172 : Cond.methodLink RL 172 yX6_torn ∈ gx_ws := gx_in (List.mem_of_getElem? (i := 782) (by decide +kernel)) rfl
theorem wm_L_175 : Cond.methodLink RL 175 yX7_torn ∈ gx_ws := gx_in (List.mem_of_getElem? (i := 1272) (by decide +kernel)) rfl
theorem wm_L_176 : Cond.methodLink RL 176 yX6_count ∈ gx_ws := gx_in (List.mem_of_getElem? (i := 786) (by decide +kernel)) rfl
end
section
theorem wm_L_179 : Cond.methodLink RL 179 yX7_count ∈ gx_ws := gx_in (List.mem_of_getElem? (i := 1276) (by decide +kernel)) rfl
theorem wc_L_7 : Cond.classLink RL 7 RX6 ∈ gx_ws := gx_in (List.mem_of_getElem? (i := 88) (by decide +kernel)) rfl
theorem wc_L_10 : Cond.classLink RL 10 RX7 ∈ gx_ws := gx_in (List.mem_of_getElem? (i := 798) (by decide +kernel)) rfl
theorem wf_X7_7 : Cond.fieldLink RX7 7 (TX7 0).1 (TX7 0).2.1 (TX7 0).2.2.1 ∈ gx_ws := gx_in (List.mem_of_getElem? (i := 812) (by decide +kernel)) rfl
theorem wf_X7_13 : Cond.fieldLink RX7 13 (TX7 1).1 (TX7 1).2.1 (TX7 1).2.2.1 ∈ gx_ws := gx_in (List.mem_of_getElem? (i := 813) (by decide +kernel)) rfl
theorem wf_X7_16 : Cond.fieldLink RX7 16 (TX7 2).1 (TX7 2).2.1 (TX7 2).2.2.1 ∈ gx_ws := gx_in (List.mem_of_getElem? (i := 814) (by decide +kernel)) rfl
theorem wf_X7_20 : Cond.fieldLink RX7 20 (TX7 4).1 (TX7 4).2.1 (TX7 4).2.2.1 ∈ gx_ws := gx_in (List.mem_of_getElem? (i := 816) (by decide +kernel)) rfl
theorem wf_X7_23 : Cond.fieldLink RX7 23 (TX7 10).1 (TX7 10).2.1 (TX7 10).2.2.1 ∈ gx_ws := gx_in (List.mem_of_getElem? (i := 822) (by decide +kernel)) rfl
theorem wf_X7_26 : Cond.fieldLink RX7 26 (TX7 23).1 (TX7 23).2.1 (TX7 23).2.2.1 ∈ gx_ws := gx_in (List.mem_of_getElem? (i := 835) (by decide +kernel)) rfl
theorem wf_X7_29 : Cond.fieldLink RX7 29 (TX7 24).1 (TX7 24).2.1 (TX7 24).2.2.1 ∈ gx_ws := gx_in (List.mem_of_getElem? (i := 836) (by decide +kernel)) rfl
theorem wf_X7_32 : Cond.fieldLink RX7 32 (TX7 25).1 (TX7 25).2.1 (TX7 25).2.2.1 ∈ gx_ws := gx_in (List.mem_of_getElem? (i := 837) (by decide +kernel)) rfl
theorem wf_X7_35 : Cond.fieldLink RX7 35 (TX7 26).1 (TX7 26).2.1 (TX7 26).2.2.1 ∈ gx_ws := gx_in (List.mem_of_getElem? (i := 838) (by decide +kernel)) rfl
theorem wf_X7_38 : Cond.fieldLink RX7 38 (TX7 27).1 (TX7 27).2.1 (TX7 27).2.2.1 ∈ gx_ws := gx_in (List.mem_of_getElem? (i := 839) (by decide +kernel)) rfl
theorem wf_X7_41 : Cond.fieldLink RX7 41 (TX7 29).1 (TX7 29).2.1 (TX7 29).2.2.1 ∈ gx_ws := gx_in (List.mem_of_getElem? (i := 841) (by decide +kernel)) rfl
theorem wf_X7_50 : Cond.fieldLink RX7 50 (TX7 5).1 (TX7 5).2.1 (TX7 5).2.2.1 ∈ gx_ws := gx_in (List.mem_of_getElem? (i := 817) (by decide +kernel)) rfl
theorem wf_X7_54 : Cond.fieldLink RX7 54 (TX7 6).1 (TX7 6).2.1 (TX7 6).2.2.1 ∈ gx_ws := gx_in (List.mem_of_getElem? (i := 818) (by decide +kernel)) rfl
theorem wf_X7_57 : Cond.fieldLink RX7 57 (TX7 7).1 (TX7 7).2.1 (TX7 7).2.2.1 ∈ gx_ws := gx_in (List.mem_of_getElem? (i := 819) (by decide +kernel)) rfl
theorem wf_X7_61 : Cond.fieldLink RX7 61 (TX7 8).1 (TX7 8).2.1 (TX7 8).2.2.1 ∈ gx_ws := gx_in (List.mem_of_getElem? (i := 820) (by decide +kernel)) rfl
theorem wf_X7_64 : Cond.fieldLink RX7 64 (TX7 9).1 (TX7 9).2.1 (TX7 9).2.2.1 ∈ gx_ws := gx_in (List.mem_of_getElem? (i := 821) (by decide +kernel)) rfl
theorem wf_X7_67 : Cond.fieldLink RX7 67 (TX7 3).1 (TX7 3).2.1 (TX7 3).2.2.1 ∈ gx_ws := gx_in (List.mem_of_getElem? (i := 815) (by decide +kernel)) rfl
theorem wf_X7_76 : Cond.fieldLink RX7 76 (TX7 11).1 (TX7 11).2.1 (TX7 11).2.2.1 ∈ gx_ws := gx_in (List.mem_of_getElem? (i := 823) (by decide +kernel)) rfl
theorem wf_X7_79 : Cond.fieldLink RX7 79 (TX7 16).1 (TX7 16).2.1 (TX7 16).2.2.1 ∈ gx_ws := gx_in (List.mem_of_getElem? (i := 828) (by decide +kernel)) rfl
theorem wf_X7_82 : Cond.fieldLink RX7 82 (TX7 13).1 (TX7 13).2.1 (TX7 13).2.2.1 ∈ gx_ws := gx_in (List.mem_of_getElem? (i := 825) (by decide +kernel)) rfl
theorem wf_X7_85 : Cond.fieldLink RX7 85 (TX7 17).1 (TX7 17).2.1 (TX7 17).2.2.1 ∈ gx_ws := gx_in (List.mem_of_getElem? (i := 829) (by decide +kernel)) rfl
theorem wf_X7_88 : Cond.fieldLink RX7 88 (TX7 12).1 (TX7 12).2.1 (TX7 12).2.2.1 ∈ gx_ws := gx_in (List.mem_of_getElem? (i := 824) (by decide +kernel)) rfl
theorem wf_X7_103 : Cond.fieldLink RX7 103 (TX7 14).1 (TX7 14).2.1 (TX7 14).2.2.1 ∈ gx_ws := gx_in (List.mem_of_getElem? (i := 826) (by decide +kernel)) rfl
theorem wf_X7_114 : Cond.fieldLink RX7 114 (TX7 15).1 (TX7 15).2.1 (TX7 15).2.2.1 ∈ gx_ws := gx_in (List.mem_of_getElem? (i := 827) (by decide +kernel)) rfl
theorem wf_X7_249 : Cond.fieldLink RX7 249 (TX7 18).1 (TX7 18).2.1 (TX7 18).2.2.1 ∈ gx_ws := gx_in (List.mem_of_getElem? (i := 830) (by decide +kernel)) rfl
theorem wf_X7_252 : Cond.fieldLink RX7 252 (TX7 19).1 (TX7 19).2.1 (TX7 19).2.2.1 ∈ gx_ws := gx_in (List.mem_of_getElem? (i := 831) (by decide +kernel)) rfl
theorem wf_X7_272 : Cond.fieldLink RX7 272 (TX7 20).1 (TX7 20).2.1 (TX7 20).2.2.1 ∈ gx_ws := gx_in (List.mem_of_getElem? (i := 832) (by decide +kernel)) rfl
theorem wf_X7_276 : Cond.fieldLink RX7 276 (TX7 21).1 (TX7 21).2.1 (TX7 21).2.2.1 ∈ gx_ws := gx_in (List.mem_of_getElem? (i := 833) (by decide +kernel)) rfl
theorem wf_X7_279 : Cond.fieldLink RX7 279 (TX7 22).1 (TX7 22).2.1 (TX7 22).2.2.1 ∈ gx_ws := gx_in (List.mem_of_getElem? (i := 834) (by decide +kernel)) rfl
theorem wf_X7_315 : Cond.fieldLink RX7 315 (TX7 28).1 (TX7 28).2.1 (TX7 28).2.2.1 ∈ gx_ws := gx_in (List.mem_of_getElem? (i := 840) (by decide +kernel)) rfl
theorem wm_X7_1 : Cond.methodLink RX7 1 objectInit ∈ gx_ws := gx_in (List.mem_of_getElem? (i := 803) (by decide +kernel)) rfl
theorem wm_X7_72 : Cond.methodLink RX7 72 yX7_in ∈ gx_ws := gx_in (List.mem_of_getElem? (i := 909) (by decide +kernel)) rfl
theorem wm_X7_163 : Cond.methodLink RX7 163 yX7_apart ∈ gx_ws := gx_in (List.mem_of_getElem? (i := 1023) (by decide +kernel)) rfl
theorem wm_X7_166 : Cond.methodLink RX7 166 yX7_lesser ∈ gx_ws := gx_in (List.mem_of_getElem? (i := 1109) (by decide +kernel)) rfl
theorem wm_X7_194 : Cond.methodLink RX7 194 yX7_flag ∈ gx_ws := gx_in (List.mem_of_getElem? (i := 1000) (by decide +kernel)) rfl
theorem wm_X7_213 : Cond.methodLink RX7 213 yX7_isDoor ∈ gx_ws := gx_in (List.mem_of_getElem? (i := 1034) (by decide +kernel)) rfl
theorem wm_X7_216 : Cond.methodLink RX7 216 yX7_isPart ∈ gx_ws := gx_in (List.mem_of_getElem? (i := 1038) (by decide +kernel)) rfl
theorem wm_X7_244 : Cond.methodLink RX7 244 yX7_isFar ∈ gx_ws := gx_in (List.mem_of_getElem? (i := 1128) (by decide +kernel)) rfl
theorem wm_X7_268 : Cond.methodLink RX7 268 yX7_common ∈ gx_ws := gx_in (List.mem_of_getElem? (i := 1203) (by decide +kernel)) rfl
theorem wm_X7_291 : Cond.methodLink RX7 291 yX7_told ∈ gx_ws := gx_in (List.mem_of_getElem? (i := 1200) (by decide +kernel)) rfl
theorem wm_X7_308 : Cond.methodLink RX7 308 yX7_isSheet ∈ gx_ws := gx_in (List.mem_of_getElem? (i := 1259) (by decide +kernel)) rfl
theorem wm_X7_44 : Cond.methodLink RX7 44 yX7_firstDraft ∈ gx_ws := gx_in (List.mem_of_getElem? (i := 804) (by decide +kernel)) rfl
theorem wm_X7_47 : Cond.methodLink RX7 47 yX7_keepDraft ∈ gx_ws := gx_in (List.mem_of_getElem? (i := 808) (by decide +kernel)) rfl
theorem wm_X7_91 : Cond.methodLink RX7 91 yX7_byteAt ∈ gx_ws := gx_in (List.mem_of_getElem? (i := 924) (by decide +kernel)) rfl
theorem wm_X7_95 : Cond.methodLink RX7 95 yX7_is ∈ gx_ws := gx_in (List.mem_of_getElem? (i := 944) (by decide +kernel)) rfl
theorem wm_X7_99 : Cond.methodLink RX7 99 yX7_endsIn ∈ gx_ws := gx_in (List.mem_of_getElem? (i := 948) (by decide +kernel)) rfl
theorem wm_X7_117 : Cond.methodLink RX7 117 yX7_requires ∈ gx_ws := gx_in (List.mem_of_getElem? (i := 932) (by decide +kernel)) rfl
theorem wm_X7_121 : Cond.methodLink RX7 121 yX7_looked ∈ gx_ws := gx_in (List.mem_of_getElem? (i := 968) (by decide +kernel)) rfl
theorem wm_X7_125 : Cond.methodLink RX7 125 yX7_reads ∈ gx_ws := gx_in (List.mem_of_getElem? (i := 920) (by decide +kernel)) rfl
theorem wm_X7_128 : Cond.methodLink RX7 128 yX7_readNumber ∈ gx_ws := gx_in (List.mem_of_getElem? (i := 964) (by decide +kernel)) rfl
theorem wm_X7_131 : Cond.methodLink RX7 131 yX7_readFames ∈ gx_ws := gx_in (List.mem_of_getElem? (i := 960) (by decide +kernel)) rfl
theorem wm_X7_134 : Cond.methodLink RX7 134 yX7_readRoute ∈ gx_ws := gx_in (List.mem_of_getElem? (i := 972) (by decide +kernel)) rfl
theorem wm_X7_137 : Cond.methodLink RX7 137 yX7_lineNow ∈ gx_ws := gx_in (List.mem_of_getElem? (i := 940) (by decide +kernel)) rfl
theorem wm_X7_141 : Cond.methodLink RX7 141 yX7_wasTold ∈ gx_ws := gx_in (List.mem_of_getElem? (i := 952) (by decide +kernel)) rfl
theorem wm_X7_145 : Cond.methodLink RX7 145 yX7_readLineOf ∈ gx_ws := gx_in (List.mem_of_getElem? (i := 956) (by decide +kernel)) rfl
theorem wm_X7_149 : Cond.methodLink RX7 149 yX7_readLine ∈ gx_ws := gx_in (List.mem_of_getElem? (i := 936) (by decide +kernel)) rfl
theorem wm_X7_154 : Cond.methodLink RX7 154 yX7_of ∈ gx_ws := gx_in (List.mem_of_getElem? (i := 996) (by decide +kernel)) rfl
theorem wm_X7_157 : Cond.methodLink RX7 157 yX7_isPaired ∈ gx_ws := gx_in (List.mem_of_getElem? (i := 992) (by decide +kernel)) rfl
theorem wm_X7_160 : Cond.methodLink RX7 160 yX7_doorOf ∈ gx_ws := gx_in (List.mem_of_getElem? (i := 1019) (by decide +kernel)) rfl
theorem wm_X7_169 : Cond.methodLink RX7 169 yX7_becomesOf ∈ gx_ws := gx_in (List.mem_of_getElem? (i := 1112) (by decide +kernel)) rfl
theorem wm_X7_173 : Cond.methodLink RX7 173 yX7_isCold ∈ gx_ws := gx_in (List.mem_of_getElem? (i := 1007) (by decide +kernel)) rfl
theorem wm_X7_176 : Cond.methodLink RX7 176 yX7_stepOf ∈ gx_ws := gx_in (List.mem_of_getElem? (i := 1026) (by decide +kernel)) rfl
theorem wm_X7_179 : Cond.methodLink RX7 179 yX7_gloveGoes ∈ gx_ws := gx_in (List.mem_of_getElem? (i := 1105) (by decide +kernel)) rfl
theorem wm_X7_182 : Cond.methodLink RX7 182 yX7_nextDoor ∈ gx_ws := gx_in (List.mem_of_getElem? (i := 1097) (by decide +kernel)) rfl
theorem wm_X7_185 : Cond.methodLink RX7 185 yX7_dayGoesAt ∈ gx_ws := gx_in (List.mem_of_getElem? (i := 1101) (by decide +kernel)) rfl
theorem wm_X7_188 : Cond.methodLink RX7 188 yX7_daysGo ∈ gx_ws := gx_in (List.mem_of_getElem? (i := 1093) (by decide +kernel)) rfl
theorem wm_X7_191 : Cond.methodLink RX7 191 yX7_nameMore ∈ gx_ws := gx_in (List.mem_of_getElem? (i := 1116) (by decide +kernel)) rfl
theorem wm_X7_198 : Cond.methodLink RX7 198 yX7_metMany ∈ gx_ws := gx_in (List.mem_of_getElem? (i := 1153) (by decide +kernel)) rfl
theorem wm_X7_201 : Cond.methodLink RX7 201 yX7_starts ∈ gx_ws := gx_in (List.mem_of_getElem? (i := 984) (by decide +kernel)) rfl
theorem wm_X7_204 : Cond.methodLink RX7 204 yX7_pairedNow ∈ gx_ws := gx_in (List.mem_of_getElem? (i := 988) (by decide +kernel)) rfl
theorem wm_X7_207 : Cond.methodLink RX7 207 yX7_coldNow ∈ gx_ws := gx_in (List.mem_of_getElem? (i := 1003) (by decide +kernel)) rfl
theorem wm_X7_210 : Cond.methodLink RX7 210 yX7_isGlove ∈ gx_ws := gx_in (List.mem_of_getElem? (i := 1015) (by decide +kernel)) rfl
theorem wm_X7_219 : Cond.methodLink RX7 219 yX7_isCall ∈ gx_ws := gx_in (List.mem_of_getElem? (i := 1045) (by decide +kernel)) rfl
theorem wm_X7_226 : Cond.methodLink RX7 226 yX7_wasPaired ∈ gx_ws := gx_in (List.mem_of_getElem? (i := 1055) (by decide +kernel)) rfl
theorem wm_X7_229 : Cond.methodLink RX7 229 yX7_becomes ∈ gx_ws := gx_in (List.mem_of_getElem? (i := 1059) (by decide +kernel)) rfl
theorem wm_X7_236 : Cond.methodLink RX7 236 yX7_nameBehind ∈ gx_ws := gx_in (List.mem_of_getElem? (i := 1089) (by decide +kernel)) rfl
theorem wm_X7_239 : Cond.methodLink RX7 239 yX7_settles ∈ gx_ws := gx_in (List.mem_of_getElem? (i := 1120) (by decide +kernel)) rfl
theorem wm_X7_255 : Cond.methodLink RX7 255 yX7_startsJudging ∈ gx_ws := gx_in (List.mem_of_getElem? (i := 1145) (by decide +kernel)) rfl
theorem wm_X7_258 : Cond.methodLink RX7 258 yX7_metBehind ∈ gx_ws := gx_in (List.mem_of_getElem? (i := 1149) (by decide +kernel)) rfl
theorem wm_X7_261 : Cond.methodLink RX7 261 yX7_judges ∈ gx_ws := gx_in (List.mem_of_getElem? (i := 1157) (by decide +kernel)) rfl
theorem wm_X7_265 : Cond.methodLink RX7 265 yX7_judged ∈ gx_ws := gx_in (List.mem_of_getElem? (i := 1161) (by decide +kernel)) rfl
theorem wm_X7_288 : Cond.methodLink RX7 288 yX7_findOdds ∈ gx_ws := gx_in (List.mem_of_getElem? (i := 1196) (by decide +kernel)) rfl
theorem wm_X7_295 : Cond.methodLink RX7 295 yX7_isSoWith ∈ gx_ws := gx_in (List.mem_of_getElem? (i := 1226) (by decide +kernel)) rfl
theorem wm_X7_299 : Cond.methodLink RX7 299 yX7_which ∈ gx_ws := gx_in (List.mem_of_getElem? (i := 1222) (by decide +kernel)) rfl
theorem wm_X7_303 : Cond.methodLink RX7 303 yX7_copies ∈ gx_ws := gx_in (List.mem_of_getElem? (i := 1247) (by decide +kernel)) rfl
theorem wm_X7_311 : Cond.methodLink RX7 311 yX7_alter ∈ gx_ws := gx_in (List.mem_of_getElem? (i := 1271) (by decide +kernel)) rfl
theorem wd_X7_70 : Cond.constantLong RX7 70 (127) ∈ gx_ws := gx_in (List.mem_of_getElem? (i := 908) (by decide +kernel)) rfl
theorem wd_X7_106 : Cond.constantLong RX7 106 (97) ∈ gx_ws := gx_in (List.mem_of_getElem? (i := 928) (by decide +kernel)) rfl
theorem wd_X7_108 : Cond.constantLong RX7 108 (122) ∈ gx_ws := gx_in (List.mem_of_getElem? (i := 929) (by decide +kernel)) rfl
theorem wd_X7_110 : Cond.constantLong RX7 110 (48) ∈ gx_ws := gx_in (List.mem_of_getElem? (i := 930) (by decide +kernel)) rfl
theorem wd_X7_112 : Cond.constantLong RX7 112 (57) ∈ gx_ws := gx_in (List.mem_of_getElem? (i := 931) (by decide +kernel)) rfl
theorem wd_X7_152 : Cond.constantLong RX7 152 (11) ∈ gx_ws := gx_in (List.mem_of_getElem? (i := 1037) (by decide +kernel)) rfl
theorem wd_X7_222 : Cond.constantLong RX7 222 (3) ∈ gx_ws := gx_in (List.mem_of_getElem? (i := 1053) (by decide +kernel)) rfl
theorem wd_X7_224 : Cond.constantLong RX7 224 (20) ∈ gx_ws := gx_in (List.mem_of_getElem? (i := 1054) (by decide +kernel)) rfl
theorem wd_X7_232 : Cond.constantLong RX7 232 (9) ∈ gx_ws := gx_in (List.mem_of_getElem? (i := 1067) (by decide +kernel)) rfl
theorem wd_X7_234 : Cond.constantLong RX7 234 (30) ∈ gx_ws := gx_in (List.mem_of_getElem? (i := 1088) (by decide +kernel)) rfl
theorem wd_X7_242 : Cond.constantLong RX7 242 (60) ∈ gx_ws := gx_in (List.mem_of_getElem? (i := 1131) (by decide +kernel)) rfl
theorem wd_X7_247 : Cond.constantLong RX7 247 (4) ∈ gx_ws := gx_in (List.mem_of_getElem? (i := 1132) (by decide +kernel)) rfl
theorem wd_X7_282 : Cond.constantLong RX7 282 (10) ∈ gx_ws := gx_in (List.mem_of_getElem? (i := 1193) (by decide +kernel)) rfl
theorem wd_X7_284 : Cond.constantLong RX7 284 (8) ∈ gx_ws := gx_in (List.mem_of_getElem? (i := 1194) (by decide +kernel)) rfl
theorem wd_X7_286 : Cond.constantLong RX7 286 (-1) ∈ gx_ws := gx_in (List.mem_of_getElem? (i := 1195) (by decide +kernel)) rfl
theorem wd_X7_306 : Cond.constantLong RX7 306 (2) ∈ gx_ws := gx_in (List.mem_of_getElem? (i := 1262) (by decide +kernel)) rfl
theorem wd_X7_302 : Cond.constant RX7 302 (1103515245) ∈ gx_ws := gx_in (List.mem_of_getElem? (i := 1242) (by decide +kernel)) rfl
theorem wd_J6_265 : Cond.constant RJ6 265 (1431655765) ∈ gx_ws := gx_in (List.mem_of_getElem? (i := 613) (by decide +kernel)) rfl
theorem wd_J6_266 : Cond.constant RJ6 266 (858993459) ∈ gx_ws := gx_in (List.mem_of_getElem? (i := 614) (by decide +kernel)) rfl
theorem wd_J6_267 : Cond.constant RJ6 267 (252645135) ∈ gx_ws := gx_in (List.mem_of_getElem? (i := 615) (by decide +kernel)) rfl
theorem wf_J0_9 : Cond.fieldLink RJ0 9 "java/lang/String" "value" "[B" ∈ gx_ws := gx_in (List.mem_of_getElem? (i := 1280) (by decide +kernel)) rfl
theorem wf_J0_15 : Cond.fieldLink RJ0 15 "java/lang/String" "coder" "B" ∈ gx_ws := gx_in (List.mem_of_getElem? (i := 1281) (by decide +kernel)) rfl
theorem wf_J0_38 : Cond.fieldLink RJ0 38 "java/lang/String" "COMPACT_STRINGS" "Z" ∈ gx_ws := gx_in (List.mem_of_getElem? (i := 385) (by decide +kernel)) rfl
theorem wf_J0_1053 : Cond.fieldLink RJ0 1053 "jdk/internal/util/Preconditions" "SIOOBE_FORMATTER" "Ljava/util/function/BiFunction;" ∈ gx_ws := gx_in (List.mem_of_getElem? (i := 401) (by decide +kernel)) rfl
theorem wm_J0_495 : Cond.methodLink RJ0 495 yJ1_charAt_3b067 ∈ gx_ws := gx_in (List.mem_of_getElem? (i := 395) (by decide +kernel)) rfl
theorem wm_J0_498 : Cond.methodLink RJ0 498 yJ2_charAt_3b067 ∈ gx_ws := gx_in (List.mem_of_getElem? (i := 406) (by decide +kernel)) rfl
theorem wm_J0_1059 : Cond.methodLink RJ0 1059 yJ3_checkIndex_8e157 ∈ gx_ws := gx_in (List.mem_of_getElem? (i := 403) (by decide +kernel)) rfl
theorem wm_J0_335 : Cond.methodLink RJ0 335 yJ0_coder_7d493 ∈ gx_ws := gx_in (List.mem_of_getElem? (i := 381) (by decide +kernel)) rfl
theorem wm_J0_492 : Cond.methodLink RJ0 492 yJ0_isLatin1_aae02 ∈ gx_ws := gx_in (List.mem_of_getElem? (i := 391) (by decide +kernel)) rfl
theorem wm_J1_9 : Cond.methodLink RJ1 9 yJ0_checkIndex_df160 ∈ gx_ws := gx_in (List.mem_of_getElem? (i := 398) (by decide +kernel)) rfl
theorem wf_J2_44 : Cond.fieldLink RJ2 44 "java/lang/StringUTF16" "$assertionsDisabled" "Z" ∈ gx_ws := gx_in (List.mem_of_getElem? (i := 419) (by decide +kernel)) rfl
theorem wf_J2_59 : Cond.fieldLink RJ2 59 "java/lang/StringUTF16" "HI_BYTE_SHIFT" "I" ∈ gx_ws := gx_in (List.mem_of_getElem? (i := 421) (by decide +kernel)) rfl
theorem wf_J2_63 : Cond.fieldLink RJ2 63 "java/lang/StringUTF16" "LO_BYTE_SHIFT" "I" ∈ gx_ws := gx_in (List.mem_of_getElem? (i := 423) (by decide +kernel)) rfl
theorem wm_J2_48 : Cond.methodLink RJ2 48 yJ2_length_9d52b ∈ gx_ws := gx_in (List.mem_of_getElem? (i := 412) (by decide +kernel)) rfl
theorem wm_J2_67 : Cond.methodLink RJ2 67 yJ2_checkIndex_2214a ∈ gx_ws := gx_in (List.mem_of_getElem? (i := 409) (by decide +kernel)) rfl
theorem wm_J2_71 : Cond.methodLink RJ2 71 yJ2_getChar_3b067 ∈ gx_ws := gx_in (List.mem_of_getElem? (i := 416) (by decide +kernel)) rfl
theorem wm_J2_414 : Cond.methodLink RJ2 414 yJ0_checkIndex_df160 ∈ gx_ws := gx_in (List.mem_of_getElem? (i := 415) (by decide +kernel)) rfl
theorem wI_X6 : Cond.initialized RX6 ∈ gx_ws := gx_in (List.mem_of_getElem? (i := 72) (by decide +kernel)) rfl
theorem wI_X0 : Cond.initialized RX0 ∈ gx_ws := gx_in (List.mem_of_getElem? (i := 77) (by decide +kernel)) rfl
theorem wI_X1 : Cond.initialized RX1 ∈ gx_ws := gx_in (List.mem_of_getElem? (i := 78) (by decide +kernel)) rfl
theorem wI_X2 : Cond.initialized RX2 ∈ gx_ws := gx_in (List.mem_of_getElem? (i := 74) (by decide +kernel)) rfl
theorem wI_X3 : Cond.initialized RX3 ∈ gx_ws := gx_in (List.mem_of_getElem? (i := 75) (by decide +kernel)) rfl
theorem wI_X4 : Cond.initialized RX4 ∈ gx_ws := gx_in (List.mem_of_getElem? (i := 76) (by decide +kernel)) rfl
theorem wI_X5 : Cond.initialized RX5 ∈ gx_ws := gx_in (List.mem_of_getElem? (i := 73) (by decide +kernel)) rfl
theorem wI_L : Cond.initialized RL ∈ gx_ws := gx_in (List.mem_of_getElem? (i := 71) (by decide +kernel)) rfl
theorem wI_X7 : Cond.initialized RX7 ∈ gx_ws := gx_in (List.mem_of_getElem? (i := 79) (by decide +kernel)) rfl
theorem wI_J6 : Cond.initialized RJ6 ∈ gx_ws := gx_in (List.mem_of_getElem? (i := 87) (by decide +kernel)) rfl
theorem wI_J9 : Cond.initialized RJ9 ∈ gx_ws := gx_in (List.mem_of_getElem? (i := 86) (by decide +kernel)) rfl
theorem wI_J0 : Cond.initialized RJ0 ∈ gx_ws := gx_in (List.mem_of_getElem? (i := 81) (by decide +kernel)) rfl
theorem wI_J1 : Cond.initialized RJ1 ∈ gx_ws := gx_in (List.mem_of_getElem? (i := 82) (by decide +kernel)) rfl
theorem wI_J2 : Cond.initialized RJ2 ∈ gx_ws := gx_in (List.mem_of_getElem? (i := 84) (by decide +kernel)) rfl
theorem wI_J10 : Cond.initialized RJ10 ∈ gx_ws := gx_in (List.mem_of_getElem? (i := 85) (by decide +kernel)) rfl
theorem wI_J7 : Cond.initialized RJ7 ∈ gx_ws := gx_in (List.mem_of_getElem? (i := 80) (by decide +kernel)) rfl
theorem wI_J3 : Cond.initialized RJ3 ∈ gx_ws := gx_in (List.mem_of_getElem? (i := 83) (by decide +kernel)) rfl
theorem wN_X0 : Cond.instantiable RX0 3 ∈ gx_ws := gx_in (List.mem_of_getElem? (i := 238) (by decide +kernel)) rfl
theorem wN_X1 : Cond.instantiable RX1 3 ∈ gx_ws := gx_in (List.mem_of_getElem? (i := 259) (by decide +kernel)) rfl
theorem wN_X2 : Cond.instantiable RX2 4 ∈ gx_ws := gx_in (List.mem_of_getElem? (i := 157) (by decide +kernel)) rfl
theorem wN_X3 : Cond.instantiable RX3 2 ∈ gx_ws := gx_in (List.mem_of_getElem? (i := 178) (by decide +kernel)) rfl
theorem wN_X4 : Cond.instantiable RX4 10 ∈ gx_ws := gx_in (List.mem_of_getElem? (i := 195) (by decide +kernel)) rfl
theorem wN_X5 : Cond.instantiable RX5 11 ∈ gx_ws := gx_in (List.mem_of_getElem? (i := 97) (by decide +kernel)) rfl
theorem wN_X6 : Cond.instantiable RX6 10 ∈ gx_ws := gx_in (List.mem_of_getElem? (i := 89) (by decide +kernel)) rfl
theorem wN_X7 : Cond.instantiable RX7 30 ∈ gx_ws := gx_in (List.mem_of_getElem? (i := 799) (by decide +kernel)) rfl
theorem wo_1 : Cond.instanceMethod objectInit ∈ gx_ws := gx_in (List.mem_of_getElem? (i := 94) (by decide +kernel)) rfl
theorem wo_2 : Cond.code objectInit ⟨#[0xb1]⟩ 1 none ∈ gx_ws := gx_in (List.mem_of_getElem? (i := 95) (by decide +kernel)) rfl
theorem wa_int : Cond.arrayClass .int ∈ gx_ws := gx_in (List.mem_of_getElem? (i := 155) (by decide +kernel)) rfl
theorem wa_byte : Cond.arrayClass .byte ∈ gx_ws := gx_in (List.mem_of_getElem? (i := 193) (by decide +kernel)) rfl
theorem wnat : Cond.native arraycopyName ∈ gx_ws := gx_in (List.mem_of_getElem? (i := 455) (by decide +kernel)) rfl
theorem wa_boolean : Cond.arrayClass .boolean ∈ gx_ws := gx_in (List.mem_of_getElem? (i := 903) (by decide +kernel)) rfl
theorem wsac : Cond.static arraycopyName ∈ gx_ws := gx_in (List.mem_of_getElem? (i := 454) (by decide +kernel)) rfl
theorem wC_X0_init : Cond.code yX0_init cX0_init 1 none ∈ gx_ws := gx_in (List.mem_of_getElem? (i := 241) (by decide +kernel)) rfl
theorem wS_X0_init : gx_St yX0_init mX0_init 0 := ⟨wC_X0_init, wI_X0, ⟨by decide +kernel, by decide +kernel, by decide +kernel⟩, by decide⟩
theorem wM_X0_init : Cond.instanceMethod yX0_init ∈ gx_ws := gx_in (List.mem_of_getElem? (i := 240) (by decide +kernel)) rfl
theorem wC_X1_init : Cond.code yX1_init cX1_init 1 none ∈ gx_ws := gx_in (List.mem_of_getElem? (i := 262) (by decide +kernel)) rfl
theorem wS_X1_init : gx_St yX1_init mX1_init 0 := ⟨wC_X1_init, wI_X1, ⟨by decide +kernel, by decide +kernel, by decide +kernel⟩, by decide⟩
theorem wM_X1_init : Cond.instanceMethod yX1_init ∈ gx_ws := gx_in (List.mem_of_getElem? (i := 261) (by decide +kernel)) rfl
theorem wC_X1_makeNew : Cond.code yX1_makeNew cX1_makeNew 3 none ∈ gx_ws := gx_in (List.mem_of_getElem? (i := 754) (by decide +kernel)) rfl
theorem wS_X1_makeNew : gx_St yX1_makeNew mX1_makeNew 2 := ⟨wC_X1_makeNew, wI_X1, ⟨by decide +kernel, by decide +kernel, by decide +kernel⟩, by decide⟩
theorem wM_X1_makeNew : Cond.instanceMethod yX1_makeNew ∈ gx_ws := gx_in (List.mem_of_getElem? (i := 752) (by decide +kernel)) rfl
theorem wV_X1_makeNew : Cond.selects RX1 yX1_makeNew yX1_makeNew ∈ gx_ws := gx_in (List.mem_of_getElem? (i := 753) (by decide +kernel)) rfl
theorem wC_X1_isNothing : Cond.code yX1_isNothing cX1_isNothing 1 (some .boolean) ∈ gx_ws := gx_in (List.mem_of_getElem? (i := 767) (by decide +kernel)) rfl
theorem wS_X1_isNothing : gx_St yX1_isNothing mX1_isNothing 0 := ⟨wC_X1_isNothing, wI_X1, ⟨by decide +kernel, by decide +kernel, by decide +kernel⟩, by decide⟩
theorem wM_X1_isNothing : Cond.instanceMethod yX1_isNothing ∈ gx_ws := gx_in (List.mem_of_getElem? (i := 765) (by decide +kernel)) rfl
theorem wV_X1_isNothing : Cond.selects RX1 yX1_isNothing yX1_isNothing ∈ gx_ws := gx_in (List.mem_of_getElem? (i := 766) (by decide +kernel)) rfl
theorem wC_X1_faultAt : Cond.code yX1_faultAt cX1_faultAt 2 (some .int) ∈ gx_ws := gx_in (List.mem_of_getElem? (i := 763) (by decide +kernel)) rfl
theorem wS_X1_faultAt : gx_St yX1_faultAt mX1_faultAt 1 := ⟨wC_X1_faultAt, wI_X1, ⟨by decide +kernel, by decide +kernel, by decide +kernel⟩, by decide⟩
theorem wM_X1_faultAt : Cond.instanceMethod yX1_faultAt ∈ gx_ws := gx_in (List.mem_of_getElem? (i := 761) (by decide +kernel)) rfl
theorem wV_X1_faultAt : Cond.selects RX1 yX1_faultAt yX1_faultAt ∈ gx_ws := gx_in (List.mem_of_getElem? (i := 762) (by decide +kernel)) rfl
theorem wC_X1_faultAtPair : Cond.code yX1_faultAtPair cX1_faultAtPair 4 (some .int) ∈ gx_ws := gx_in (List.mem_of_getElem? (i := 780) (by decide +kernel)) rfl
theorem wS_X1_faultAtPair : gx_St yX1_faultAtPair mX1_faultAtPair 2 := ⟨wC_X1_faultAtPair, wI_X1, ⟨by decide +kernel, by decide +kernel, by decide +kernel⟩, by decide⟩
theorem wM_X1_faultAtPair : Cond.instanceMethod yX1_faultAtPair ∈ gx_ws := gx_in (List.mem_of_getElem? (i := 778) (by decide +kernel)) rfl
theorem wV_X1_faultAtPair : Cond.selects RX1 yX1_faultAtPair yX1_faultAtPair ∈ gx_ws := gx_in (List.mem_of_getElem? (i := 779) (by decide +kernel)) rfl
theorem wC_X1_lowestBits : Cond.code yX1_lowestBits cX1_lowestBits 2 (some .int) ∈ gx_ws := gx_in (List.mem_of_getElem? (i := 772) (by decide +kernel)) rfl
theorem wS_X1_lowestBits : gx_St yX1_lowestBits mX1_lowestBits 1 := ⟨wC_X1_lowestBits, wI_X1, ⟨by decide +kernel, by decide +kernel, by decide +kernel⟩, by decide⟩
theorem wM_X1_lowestBits : Cond.instanceMethod yX1_lowestBits ∈ gx_ws := gx_in (List.mem_of_getElem? (i := 770) (by decide +kernel)) rfl
theorem wV_X1_lowestBits : Cond.selects RX1 yX1_lowestBits yX1_lowestBits ∈ gx_ws := gx_in (List.mem_of_getElem? (i := 771) (by decide +kernel)) rfl
theorem wC_X2_init : Cond.code yX2_init cX2_init 1 none ∈ gx_ws := gx_in (List.mem_of_getElem? (i := 160) (by decide +kernel)) rfl
theorem wS_X2_init : gx_St yX2_init mX2_init 0 := ⟨wC_X2_init, wI_X2, ⟨by decide +kernel, by decide +kernel, by decide +kernel⟩, by decide⟩
theorem wM_X2_init : Cond.instanceMethod yX2_init ∈ gx_ws := gx_in (List.mem_of_getElem? (i := 159) (by decide +kernel)) rfl
theorem wC_X2_become : Cond.code yX2_become cX2_become 2 none ∈ gx_ws := gx_in (List.mem_of_getElem? (i := 738) (by decide +kernel)) rfl
theorem wS_X2_become : gx_St yX2_become mX2_become 1 := ⟨wC_X2_become, wI_X2, ⟨by decide +kernel, by decide +kernel, by decide +kernel⟩, by decide⟩
theorem wM_X2_become : Cond.instanceMethod yX2_become ∈ gx_ws := gx_in (List.mem_of_getElem? (i := 736) (by decide +kernel)) rfl
theorem wV_X2_become : Cond.selects RX2 yX2_become yX2_become ∈ gx_ws := gx_in (List.mem_of_getElem? (i := 737) (by decide +kernel)) rfl
theorem wC_X2_add : Cond.code yX2_add cX2_add 4 none ∈ gx_ws := gx_in (List.mem_of_getElem? (i := 687) (by decide +kernel)) rfl
theorem wS_X2_add : gx_St yX2_add mX2_add 3 := ⟨wC_X2_add, wI_X2, ⟨by decide +kernel, by decide +kernel, by decide +kernel⟩, by decide⟩
theorem wM_X2_add : Cond.instanceMethod yX2_add ∈ gx_ws := gx_in (List.mem_of_getElem? (i := 685) (by decide +kernel)) rfl
theorem wV_X2_add : Cond.selects RX2 yX2_add yX2_add ∈ gx_ws := gx_in (List.mem_of_getElem? (i := 686) (by decide +kernel)) rfl
theorem wC_X2_lastDay : Cond.code yX2_lastDay cX2_lastDay 3 (some .int) ∈ gx_ws := gx_in (List.mem_of_getElem? (i := 707) (by decide +kernel)) rfl
theorem wS_X2_lastDay : gx_St yX2_lastDay mX2_lastDay 0 := ⟨wC_X2_lastDay, wI_X2, ⟨by decide +kernel, by decide +kernel, by decide +kernel⟩, by decide⟩
theorem wM_X2_lastDay : Cond.instanceMethod yX2_lastDay ∈ gx_ws := gx_in (List.mem_of_getElem? (i := 705) (by decide +kernel)) rfl
theorem wV_X2_lastDay : Cond.selects RX2 yX2_lastDay yX2_lastDay ∈ gx_ws := gx_in (List.mem_of_getElem? (i := 706) (by decide +kernel)) rfl
theorem wC_X2_fits : Cond.code yX2_fits cX2_fits 4 (some .boolean) ∈ gx_ws := gx_in (List.mem_of_getElem? (i := 712) (by decide +kernel)) rfl
theorem wS_X2_fits : gx_St yX2_fits mX2_fits 2 := ⟨wC_X2_fits, wI_X2, ⟨by decide +kernel, by decide +kernel, by decide +kernel⟩, by decide⟩
theorem wM_X2_fits : Cond.instanceMethod yX2_fits ∈ gx_ws := gx_in (List.mem_of_getElem? (i := 710) (by decide +kernel)) rfl
theorem wV_X2_fits : Cond.selects RX2 yX2_fits yX2_fits ∈ gx_ws := gx_in (List.mem_of_getElem? (i := 711) (by decide +kernel)) rfl
theorem wC_X3_init : Cond.code yX3_init cX3_init 1 none ∈ gx_ws := gx_in (List.mem_of_getElem? (i := 181) (by decide +kernel)) rfl
theorem wS_X3_init : gx_St yX3_init mX3_init 0 := ⟨wC_X3_init, wI_X3, ⟨by decide +kernel, by decide +kernel, by decide +kernel⟩, by decide⟩
theorem wM_X3_init : Cond.instanceMethod yX3_init ∈ gx_ws := gx_in (List.mem_of_getElem? (i := 180) (by decide +kernel)) rfl
theorem wC_X4_init : Cond.code yX4_init cX4_init 3 none ∈ gx_ws := gx_in (List.mem_of_getElem? (i := 198) (by decide +kernel)) rfl
theorem wS_X4_init : gx_St yX4_init mX4_init 2 := ⟨wC_X4_init, wI_X4, ⟨by decide +kernel, by decide +kernel, by decide +kernel⟩, by decide⟩
theorem wM_X4_init : Cond.instanceMethod yX4_init ∈ gx_ws := gx_in (List.mem_of_getElem? (i := 197) (by decide +kernel)) rfl
theorem wC_X4_takesAll : Cond.code yX4_takesAll cX4_takesAll 1 (some .boolean) ∈ gx_ws := gx_in (List.mem_of_getElem? (i := 325) (by decide +kernel)) rfl
theorem wS_X4_takesAll : gx_St yX4_takesAll mX4_takesAll 0 := ⟨wC_X4_takesAll, wI_X4, ⟨by decide +kernel, by decide +kernel, by decide +kernel⟩, by decide⟩
theorem wM_X4_takesAll : Cond.instanceMethod yX4_takesAll ∈ gx_ws := gx_in (List.mem_of_getElem? (i := 323) (by decide +kernel)) rfl
theorem wV_X4_takesAll : Cond.selects RX4 yX4_takesAll yX4_takesAll ∈ gx_ws := gx_in (List.mem_of_getElem? (i := 324) (by decide +kernel)) rfl
theorem wC_X4_refuses : Cond.code yX4_refuses cX4_refuses 2 (some .boolean) ∈ gx_ws := gx_in (List.mem_of_getElem? (i := 354) (by decide +kernel)) rfl
theorem wS_X4_refuses : gx_St yX4_refuses mX4_refuses 1 := ⟨wC_X4_refuses, wI_X4, ⟨by decide +kernel, by decide +kernel, by decide +kernel⟩, by decide⟩
theorem wM_X4_refuses : Cond.instanceMethod yX4_refuses ∈ gx_ws := gx_in (List.mem_of_getElem? (i := 353) (by decide +kernel)) rfl
theorem wV_X4_refuses : Cond.selects RX4 yX4_refuses yX4_refuses ∈ gx_ws := gx_in (List.mem_of_getElem? (i := 3) (by decide +kernel)) rfl
theorem wC_X4_takesLine : Cond.code yX4_takesLine cX4_takesLine 2 (some .boolean) ∈ gx_ws := gx_in (List.mem_of_getElem? (i := 358) (by decide +kernel)) rfl
theorem wS_X4_takesLine : gx_St yX4_takesLine mX4_takesLine 0 := ⟨wC_X4_takesLine, wI_X4, ⟨by decide +kernel, by decide +kernel, by decide +kernel⟩, by decide⟩
theorem wM_X4_takesLine : Cond.instanceMethod yX4_takesLine ∈ gx_ws := gx_in (List.mem_of_getElem? (i := 357) (by decide +kernel)) rfl
theorem wV_X4_takesLine : Cond.selects RX4 yX4_takesLine yX4_takesLine ∈ gx_ws := gx_in (List.mem_of_getElem? (i := 4) (by decide +kernel)) rfl
theorem wC_X4_takesGlove : Cond.code yX4_takesGlove cX4_takesGlove 3 (some .boolean) ∈ gx_ws := gx_in (List.mem_of_getElem? (i := 428) (by decide +kernel)) rfl
theorem wS_X4_takesGlove : gx_St yX4_takesGlove mX4_takesGlove 1 := ⟨wC_X4_takesGlove, wI_X4, ⟨by decide +kernel, by decide +kernel, by decide +kernel⟩, by decide⟩
theorem wM_X4_takesGlove : Cond.instanceMethod yX4_takesGlove ∈ gx_ws := gx_in (List.mem_of_getElem? (i := 427) (by decide +kernel)) rfl
theorem wV_X4_takesGlove : Cond.selects RX4 yX4_takesGlove yX4_takesGlove ∈ gx_ws := gx_in (List.mem_of_getElem? (i := 7) (by decide +kernel)) rfl
theorem wC_X4_takesRoute : Cond.code yX4_takesRoute cX4_takesRoute 2 (some .boolean) ∈ gx_ws := gx_in (List.mem_of_getElem? (i := 444) (by decide +kernel)) rfl
theorem wS_X4_takesRoute : gx_St yX4_takesRoute mX4_takesRoute 0 := ⟨wC_X4_takesRoute, wI_X4, ⟨by decide +kernel, by decide +kernel, by decide +kernel⟩, by decide⟩
theorem wM_X4_takesRoute : Cond.instanceMethod yX4_takesRoute ∈ gx_ws := gx_in (List.mem_of_getElem? (i := 443) (by decide +kernel)) rfl
theorem wV_X4_takesRoute : Cond.selects RX4 yX4_takesRoute yX4_takesRoute ∈ gx_ws := gx_in (List.mem_of_getElem? (i := 11) (by decide +kernel)) rfl
theorem wC_X4_takesMan : Cond.code yX4_takesMan cX4_takesMan 1 (some .boolean) ∈ gx_ws := gx_in (List.mem_of_getElem? (i := 448) (by decide +kernel)) rfl
theorem wS_X4_takesMan : gx_St yX4_takesMan mX4_takesMan 0 := ⟨wC_X4_takesMan, wI_X4, ⟨by decide +kernel, by decide +kernel, by decide +kernel⟩, by decide⟩
theorem wM_X4_takesMan : Cond.instanceMethod yX4_takesMan ∈ gx_ws := gx_in (List.mem_of_getElem? (i := 447) (by decide +kernel)) rfl
theorem wV_X4_takesMan : Cond.selects RX4 yX4_takesMan yX4_takesMan ∈ gx_ws := gx_in (List.mem_of_getElem? (i := 12) (by decide +kernel)) rfl
theorem wC_X4_takesRow : Cond.code yX4_takesRow cX4_takesRow 3 (some .boolean) ∈ gx_ws := gx_in (List.mem_of_getElem? (i := 440) (by decide +kernel)) rfl
theorem wS_X4_takesRow : gx_St yX4_takesRow mX4_takesRow 2 := ⟨wC_X4_takesRow, wI_X4, ⟨by decide +kernel, by decide +kernel, by decide +kernel⟩, by decide⟩
theorem wM_X4_takesRow : Cond.instanceMethod yX4_takesRow ∈ gx_ws := gx_in (List.mem_of_getElem? (i := 439) (by decide +kernel)) rfl
theorem wV_X4_takesRow : Cond.selects RX4 yX4_takesRow yX4_takesRow ∈ gx_ws := gx_in (List.mem_of_getElem? (i := 10) (by decide +kernel)) rfl
theorem wC_X4_takesNumber : Cond.code yX4_takesNumber cX4_takesNumber 2 (some .boolean) ∈ gx_ws := gx_in (List.mem_of_getElem? (i := 432) (by decide +kernel)) rfl
theorem wS_X4_takesNumber : gx_St yX4_takesNumber mX4_takesNumber 1 := ⟨wC_X4_takesNumber, wI_X4, ⟨by decide +kernel, by decide +kernel, by decide +kernel⟩, by decide⟩
theorem wM_X4_takesNumber : Cond.instanceMethod yX4_takesNumber ∈ gx_ws := gx_in (List.mem_of_getElem? (i := 431) (by decide +kernel)) rfl
theorem wV_X4_takesNumber : Cond.selects RX4 yX4_takesNumber yX4_takesNumber ∈ gx_ws := gx_in (List.mem_of_getElem? (i := 8) (by decide +kernel)) rfl
theorem wC_X4_takesMark : Cond.code yX4_takesMark cX4_takesMark 1 (some .boolean) ∈ gx_ws := gx_in (List.mem_of_getElem? (i := 436) (by decide +kernel)) rfl
theorem wS_X4_takesMark : gx_St yX4_takesMark mX4_takesMark 0 := ⟨wC_X4_takesMark, wI_X4, ⟨by decide +kernel, by decide +kernel, by decide +kernel⟩, by decide⟩
theorem wM_X4_takesMark : Cond.instanceMethod yX4_takesMark ∈ gx_ws := gx_in (List.mem_of_getElem? (i := 435) (by decide +kernel)) rfl
theorem wV_X4_takesMark : Cond.selects RX4 yX4_takesMark yX4_takesMark ∈ gx_ws := gx_in (List.mem_of_getElem? (i := 9) (by decide +kernel)) rfl
theorem wC_X4_readsToken : Cond.code yX4_readsToken cX4_readsToken 2 (some .boolean) ∈ gx_ws := gx_in (List.mem_of_getElem? (i := 336) (by decide +kernel)) rfl
theorem wS_X4_readsToken : gx_St yX4_readsToken mX4_readsToken 0 := ⟨wC_X4_readsToken, wI_X4, ⟨by decide +kernel, by decide +kernel, by decide +kernel⟩, by decide⟩
theorem wM_X4_readsToken : Cond.instanceMethod yX4_readsToken ∈ gx_ws := gx_in (List.mem_of_getElem? (i := 335) (by decide +kernel)) rfl
theorem wV_X4_readsToken : Cond.selects RX4 yX4_readsToken yX4_readsToken ∈ gx_ws := gx_in (List.mem_of_getElem? (i := 0) (by decide +kernel)) rfl
theorem wC_X4_readsWord : Cond.code yX4_readsWord cX4_readsWord 1 (some .boolean) ∈ gx_ws := gx_in (List.mem_of_getElem? (i := 343) (by decide +kernel)) rfl
theorem wS_X4_readsWord : gx_St yX4_readsWord mX4_readsWord 0 := ⟨wC_X4_readsWord, wI_X4, ⟨by decide +kernel, by decide +kernel, by decide +kernel⟩, by decide⟩
theorem wM_X4_readsWord : Cond.instanceMethod yX4_readsWord ∈ gx_ws := gx_in (List.mem_of_getElem? (i := 342) (by decide +kernel)) rfl
theorem wV_X4_readsWord : Cond.selects RX4 yX4_readsWord yX4_readsWord ∈ gx_ws := gx_in (List.mem_of_getElem? (i := 1) (by decide +kernel)) rfl
theorem wC_X4_readsNumber : Cond.code yX4_readsNumber cX4_readsNumber 1 (some .boolean) ∈ gx_ws := gx_in (List.mem_of_getElem? (i := 350) (by decide +kernel)) rfl
theorem wS_X4_readsNumber : gx_St yX4_readsNumber mX4_readsNumber 0 := ⟨wC_X4_readsNumber, wI_X4, ⟨by decide +kernel, by decide +kernel, by decide +kernel⟩, by decide⟩
theorem wM_X4_readsNumber : Cond.instanceMethod yX4_readsNumber ∈ gx_ws := gx_in (List.mem_of_getElem? (i := 349) (by decide +kernel)) rfl
theorem wV_X4_readsNumber : Cond.selects RX4 yX4_readsNumber yX4_readsNumber ∈ gx_ws := gx_in (List.mem_of_getElem? (i := 2) (by decide +kernel)) rfl
theorem wC_X4_isLetter : Cond.code yX4_isLetter cX4_isLetter 1 (some .boolean) ∈ gx_ws := gx_in (List.mem_of_getElem? (i := 339) (by decide +kernel)) rfl
theorem wS_X4_isLetter : gx_St yX4_isLetter mX4_isLetter 1 := ⟨wC_X4_isLetter, wI_X4, ⟨by decide +kernel, by decide +kernel, by decide +kernel⟩, by decide⟩
theorem wT_X4_isLetter : Cond.static yX4_isLetter ∈ gx_ws := gx_in (List.mem_of_getElem? (i := 338) (by decide +kernel)) rfl
theorem wC_X4_isFigure : Cond.code yX4_isFigure cX4_isFigure 1 (some .boolean) ∈ gx_ws := gx_in (List.mem_of_getElem? (i := 346) (by decide +kernel)) rfl
theorem wS_X4_isFigure : gx_St yX4_isFigure mX4_isFigure 1 := ⟨wC_X4_isFigure, wI_X4, ⟨by decide +kernel, by decide +kernel, by decide +kernel⟩, by decide⟩
theorem wT_X4_isFigure : Cond.static yX4_isFigure ∈ gx_ws := gx_in (List.mem_of_getElem? (i := 345) (by decide +kernel)) rfl
theorem wC_X4_wordRead : Cond.code yX4_wordRead cX4_wordRead 2 (some .int) ∈ gx_ws := gx_in (List.mem_of_getElem? (i := 362) (by decide +kernel)) rfl
theorem wS_X4_wordRead : gx_St yX4_wordRead mX4_wordRead 0 := ⟨wC_X4_wordRead, wI_X4, ⟨by decide +kernel, by decide +kernel, by decide +kernel⟩, by decide⟩
theorem wM_X4_wordRead : Cond.instanceMethod yX4_wordRead ∈ gx_ws := gx_in (List.mem_of_getElem? (i := 361) (by decide +kernel)) rfl
theorem wV_X4_wordRead : Cond.selects RX4 yX4_wordRead yX4_wordRead ∈ gx_ws := gx_in (List.mem_of_getElem? (i := 5) (by decide +kernel)) rfl
theorem wC_X4_isSpelled : Cond.code yX4_isSpelled cX4_isSpelled 3 (some .boolean) ∈ gx_ws := gx_in (List.mem_of_getElem? (i := 376) (by decide +kernel)) rfl
theorem wS_X4_isSpelled : gx_St yX4_isSpelled mX4_isSpelled 1 := ⟨wC_X4_isSpelled, wI_X4, ⟨by decide +kernel, by decide +kernel, by decide +kernel⟩, by decide⟩
theorem wM_X4_isSpelled : Cond.instanceMethod yX4_isSpelled ∈ gx_ws := gx_in (List.mem_of_getElem? (i := 375) (by decide +kernel)) rfl
theorem wV_X4_isSpelled : Cond.selects RX4 yX4_isSpelled yX4_isSpelled ∈ gx_ws := gx_in (List.mem_of_getElem? (i := 6) (by decide +kernel)) rfl
theorem wC_X4_spellingOf : Cond.code yX4_spellingOf cX4_spellingOf 1 (some (.object "java/lang/String")) ∈ gx_ws := gx_in (List.mem_of_getElem? (i := 365) (by decide +kernel)) rfl
theorem wS_X4_spellingOf : gx_St yX4_spellingOf mX4_spellingOf 1 := ⟨wC_X4_spellingOf, wI_X4, ⟨by decide +kernel, by decide +kernel, by decide +kernel⟩, by decide⟩
theorem wT_X4_spellingOf : Cond.static yX4_spellingOf ∈ gx_ws := gx_in (List.mem_of_getElem? (i := 364) (by decide +kernel)) rfl
theorem wC_X5_init : Cond.code yX5_init cX5_init 1 none ∈ gx_ws := gx_in (List.mem_of_getElem? (i := 100) (by decide +kernel)) rfl
theorem wS_X5_init : gx_St yX5_init mX5_init 0 := ⟨wC_X5_init, wI_X5, ⟨by decide +kernel, by decide +kernel, by decide +kernel⟩, by decide⟩
theorem wM_X5_init : Cond.instanceMethod yX5_init ∈ gx_ws := gx_in (List.mem_of_getElem? (i := 99) (by decide +kernel)) rfl
theorem wC_X5_makeEmpty : Cond.code yX5_makeEmpty cX5_makeEmpty 1 none ∈ gx_ws := gx_in (List.mem_of_getElem? (i := 329) (by decide +kernel)) rfl
theorem wS_X5_makeEmpty : gx_St yX5_makeEmpty mX5_makeEmpty 0 := ⟨wC_X5_makeEmpty, wI_X5, ⟨by decide +kernel, by decide +kernel, by decide +kernel⟩, by decide⟩
theorem wM_X5_makeEmpty : Cond.instanceMethod yX5_makeEmpty ∈ gx_ws := gx_in (List.mem_of_getElem? (i := 327) (by decide +kernel)) rfl
theorem wV_X5_makeEmpty : Cond.selects RX5 yX5_makeEmpty yX5_makeEmpty ∈ gx_ws := gx_in (List.mem_of_getElem? (i := 328) (by decide +kernel)) rfl
theorem wC_X5_become : Cond.code yX5_become cX5_become 2 none ∈ gx_ws := gx_in (List.mem_of_getElem? (i := 452) (by decide +kernel)) rfl
theorem wS_X5_become : gx_St yX5_become mX5_become 1 := ⟨wC_X5_become, wI_X5, ⟨by decide +kernel, by decide +kernel, by decide +kernel⟩, by decide⟩
theorem wM_X5_become : Cond.instanceMethod yX5_become ∈ gx_ws := gx_in (List.mem_of_getElem? (i := 450) (by decide +kernel)) rfl
theorem wV_X5_become : Cond.selects RX5 yX5_become yX5_become ∈ gx_ws := gx_in (List.mem_of_getElem? (i := 451) (by decide +kernel)) rfl
theorem wC_X5_partOf : Cond.code yX5_partOf cX5_partOf 3 (some .int) ∈ gx_ws := gx_in (List.mem_of_getElem? (i := 487) (by decide +kernel)) rfl
theorem wS_X5_partOf : gx_St yX5_partOf mX5_partOf 2 := ⟨wC_X5_partOf, wI_X5, ⟨by decide +kernel, by decide +kernel, by decide +kernel⟩, by decide⟩
theorem wM_X5_partOf : Cond.instanceMethod yX5_partOf ∈ gx_ws := gx_in (List.mem_of_getElem? (i := 485) (by decide +kernel)) rfl
theorem wV_X5_partOf : Cond.selects RX5 yX5_partOf yX5_partOf ∈ gx_ws := gx_in (List.mem_of_getElem? (i := 486) (by decide +kernel)) rfl
theorem wC_X5_putPart : Cond.code yX5_putPart cX5_putPart 4 none ∈ gx_ws := gx_in (List.mem_of_getElem? (i := 536) (by decide +kernel)) rfl
theorem wS_X5_putPart : gx_St yX5_putPart mX5_putPart 3 := ⟨wC_X5_putPart, wI_X5, ⟨by decide +kernel, by decide +kernel, by decide +kernel⟩, by decide⟩
theorem wM_X5_putPart : Cond.instanceMethod yX5_putPart ∈ gx_ws := gx_in (List.mem_of_getElem? (i := 534) (by decide +kernel)) rfl
theorem wV_X5_putPart : Cond.selects RX5 yX5_putPart yX5_putPart ∈ gx_ws := gx_in (List.mem_of_getElem? (i := 535) (by decide +kernel)) rfl
theorem wC_X5_isPaired : Cond.code yX5_isPaired cX5_isPaired 2 (some .boolean) ∈ gx_ws := gx_in (List.mem_of_getElem? (i := 475) (by decide +kernel)) rfl
theorem wS_X5_isPaired : gx_St yX5_isPaired mX5_isPaired 1 := ⟨wC_X5_isPaired, wI_X5, ⟨by decide +kernel, by decide +kernel, by decide +kernel⟩, by decide⟩
theorem wM_X5_isPaired : Cond.instanceMethod yX5_isPaired ∈ gx_ws := gx_in (List.mem_of_getElem? (i := 473) (by decide +kernel)) rfl
theorem wV_X5_isPaired : Cond.selects RX5 yX5_isPaired yX5_isPaired ∈ gx_ws := gx_in (List.mem_of_getElem? (i := 474) (by decide +kernel)) rfl
theorem wC_X5_isCold : Cond.code yX5_isCold cX5_isCold 2 (some .boolean) ∈ gx_ws := gx_in (List.mem_of_getElem? (i := 471) (by decide +kernel)) rfl
theorem wS_X5_isCold : gx_St yX5_isCold mX5_isCold 1 := ⟨wC_X5_isCold, wI_X5, ⟨by decide +kernel, by decide +kernel, by decide +kernel⟩, by decide⟩
theorem wM_X5_isCold : Cond.instanceMethod yX5_isCold ∈ gx_ws := gx_in (List.mem_of_getElem? (i := 469) (by decide +kernel)) rfl
theorem wV_X5_isCold : Cond.selects RX5 yX5_isCold yX5_isCold ∈ gx_ws := gx_in (List.mem_of_getElem? (i := 470) (by decide +kernel)) rfl
theorem wC_X5_coldOnes : Cond.code yX5_coldOnes cX5_coldOnes 3 (some .int) ∈ gx_ws := gx_in (List.mem_of_getElem? (i := 467) (by decide +kernel)) rfl
theorem wS_X5_coldOnes : gx_St yX5_coldOnes mX5_coldOnes 0 := ⟨wC_X5_coldOnes, wI_X5, ⟨by decide +kernel, by decide +kernel, by decide +kernel⟩, by decide⟩
theorem wM_X5_coldOnes : Cond.instanceMethod yX5_coldOnes ∈ gx_ws := gx_in (List.mem_of_getElem? (i := 465) (by decide +kernel)) rfl
theorem wV_X5_coldOnes : Cond.selects RX5 yX5_coldOnes yX5_coldOnes ∈ gx_ws := gx_in (List.mem_of_getElem? (i := 466) (by decide +kernel)) rfl
theorem wC_X5_glovesAt : Cond.code yX5_glovesAt cX5_glovesAt 4 (some .int) ∈ gx_ws := gx_in (List.mem_of_getElem? (i := 513) (by decide +kernel)) rfl
theorem wS_X5_glovesAt : gx_St yX5_glovesAt mX5_glovesAt 1 := ⟨wC_X5_glovesAt, wI_X5, ⟨by decide +kernel, by decide +kernel, by decide +kernel⟩, by decide⟩
theorem wM_X5_glovesAt : Cond.instanceMethod yX5_glovesAt ∈ gx_ws := gx_in (List.mem_of_getElem? (i := 511) (by decide +kernel)) rfl
theorem wV_X5_glovesAt : Cond.selects RX5 yX5_glovesAt yX5_glovesAt ∈ gx_ws := gx_in (List.mem_of_getElem? (i := 512) (by decide +kernel)) rfl
theorem wC_X5_metCount : Cond.code yX5_metCount cX5_metCount 1 (some .int) ∈ gx_ws := gx_in (List.mem_of_getElem? (i := 609) (by decide +kernel)) rfl
theorem wS_X5_metCount : gx_St yX5_metCount mX5_metCount 0 := ⟨wC_X5_metCount, wI_X5, ⟨by decide +kernel, by decide +kernel, by decide +kernel⟩, by decide⟩
theorem wM_X5_metCount : Cond.instanceMethod yX5_metCount ∈ gx_ws := gx_in (List.mem_of_getElem? (i := 607) (by decide +kernel)) rfl
theorem wV_X5_metCount : Cond.selects RX5 yX5_metCount yX5_metCount ∈ gx_ws := gx_in (List.mem_of_getElem? (i := 608) (by decide +kernel)) rfl
theorem wC_X5_leaveOutCall : Cond.code yX5_leaveOutCall cX5_leaveOutCall 3 none ∈ gx_ws := gx_in (List.mem_of_getElem? (i := 639) (by decide +kernel)) rfl
theorem wS_X5_leaveOutCall : gx_St yX5_leaveOutCall mX5_leaveOutCall 1 := ⟨wC_X5_leaveOutCall, wI_X5, ⟨by decide +kernel, by decide +kernel, by decide +kernel⟩, by decide⟩
theorem wM_X5_leaveOutCall : Cond.instanceMethod yX5_leaveOutCall ∈ gx_ws := gx_in (List.mem_of_getElem? (i := 637) (by decide +kernel)) rfl
theorem wV_X5_leaveOutCall : Cond.selects RX5 yX5_leaveOutCall yX5_leaveOutCall ∈ gx_ws := gx_in (List.mem_of_getElem? (i := 638) (by decide +kernel)) rfl
theorem wC_X5_stepOf : Cond.code yX5_stepOf cX5_stepOf 4 (some .int) ∈ gx_ws := gx_in (List.mem_of_getElem? (i := 501) (by decide +kernel)) rfl
theorem wS_X5_stepOf : gx_St yX5_stepOf mX5_stepOf 1 := ⟨wC_X5_stepOf, wI_X5, ⟨by decide +kernel, by decide +kernel, by decide +kernel⟩, by decide⟩
theorem wM_X5_stepOf : Cond.instanceMethod yX5_stepOf ∈ gx_ws := gx_in (List.mem_of_getElem? (i := 499) (by decide +kernel)) rfl
theorem wV_X5_stepOf : Cond.selects RX5 yX5_stepOf yX5_stepOf ∈ gx_ws := gx_in (List.mem_of_getElem? (i := 500) (by decide +kernel)) rfl
theorem wC_X5_moveMan : Cond.code yX5_moveMan cX5_moveMan 3 none ∈ gx_ws := gx_in (List.mem_of_getElem? (i := 552) (by decide +kernel)) rfl
theorem wS_X5_moveMan : gx_St yX5_moveMan mX5_moveMan 1 := ⟨wC_X5_moveMan, wI_X5, ⟨by decide +kernel, by decide +kernel, by decide +kernel⟩, by decide⟩
theorem wM_X5_moveMan : Cond.instanceMethod yX5_moveMan ∈ gx_ws := gx_in (List.mem_of_getElem? (i := 550) (by decide +kernel)) rfl
theorem wV_X5_moveMan : Cond.selects RX5 yX5_moveMan yX5_moveMan ∈ gx_ws := gx_in (List.mem_of_getElem? (i := 551) (by decide +kernel)) rfl
theorem wC_X5_passDays : Cond.code yX5_passDays cX5_passDays 3 none ∈ gx_ws := gx_in (List.mem_of_getElem? (i := 568) (by decide +kernel)) rfl
theorem wS_X5_passDays : gx_St yX5_passDays mX5_passDays 1 := ⟨wC_X5_passDays, wI_X5, ⟨by decide +kernel, by decide +kernel, by decide +kernel⟩, by decide⟩
theorem wM_X5_passDays : Cond.instanceMethod yX5_passDays ∈ gx_ws := gx_in (List.mem_of_getElem? (i := 566) (by decide +kernel)) rfl
theorem wV_X5_passDays : Cond.selects RX5 yX5_passDays yX5_passDays ∈ gx_ws := gx_in (List.mem_of_getElem? (i := 567) (by decide +kernel)) rfl
theorem wC_X5_passDay : Cond.code yX5_passDay cX5_passDay 3 none ∈ gx_ws := gx_in (List.mem_of_getElem? (i := 572) (by decide +kernel)) rfl
theorem wS_X5_passDay : gx_St yX5_passDay mX5_passDay 1 := ⟨wC_X5_passDay, wI_X5, ⟨by decide +kernel, by decide +kernel, by decide +kernel⟩, by decide⟩
theorem wM_X5_passDay : Cond.instanceMethod yX5_passDay ∈ gx_ws := gx_in (List.mem_of_getElem? (i := 570) (by decide +kernel)) rfl
theorem wV_X5_passDay : Cond.selects RX5 yX5_passDay yX5_passDay ∈ gx_ws := gx_in (List.mem_of_getElem? (i := 571) (by decide +kernel)) rfl
theorem wC_X5_passDayOfGlove : Cond.code yX5_passDayOfGlove cX5_passDayOfGlove 2 none ∈ gx_ws := gx_in (List.mem_of_getElem? (i := 576) (by decide +kernel)) rfl
theorem wS_X5_passDayOfGlove : gx_St yX5_passDayOfGlove mX5_passDayOfGlove 1 := ⟨wC_X5_passDayOfGlove, wI_X5, ⟨by decide +kernel, by decide +kernel, by decide +kernel⟩, by decide⟩
theorem wM_X5_passDayOfGlove : Cond.instanceMethod yX5_passDayOfGlove ∈ gx_ws := gx_in (List.mem_of_getElem? (i := 575) (by decide +kernel)) rfl
theorem wV_X5_passDayOfGlove : Cond.selects RX5 yX5_passDayOfGlove yX5_passDayOfGlove ∈ gx_ws := gx_in (List.mem_of_getElem? (i := 16) (by decide +kernel)) rfl
theorem wC_X6_init : Cond.code yX6_init cX6_init 2 none ∈ gx_ws := gx_in (List.mem_of_getElem? (i := 92) (by decide +kernel)) rfl
theorem wS_X6_init : gx_St yX6_init mX6_init 0 := ⟨wC_X6_init, wI_X6, ⟨by decide +kernel, by decide +kernel, by decide +kernel⟩, by decide⟩
theorem wM_X6_init : Cond.instanceMethod yX6_init ∈ gx_ws := gx_in (List.mem_of_getElem? (i := 91) (by decide +kernel)) rfl
theorem wC_X6_feed : Cond.code yX6_feed cX6_feed 2 (some .int) ∈ gx_ws := gx_in (List.mem_of_getElem? (i := 310) (by decide +kernel)) rfl
theorem wS_X6_feed : gx_St yX6_feed mX6_feed 1 := ⟨wC_X6_feed, wI_X6, ⟨by decide +kernel, by decide +kernel, by decide +kernel⟩, by decide⟩
theorem wM_X6_feed : Cond.instanceMethod yX6_feed ∈ gx_ws := gx_in (List.mem_of_getElem? (i := 308) (by decide +kernel)) rfl
theorem wV_X6_feed : Cond.selects RX6 yX6_feed yX6_feed ∈ gx_ws := gx_in (List.mem_of_getElem? (i := 309) (by decide +kernel)) rfl
theorem wC_X6_end : Cond.code yX6_end cX6_end 3 (some .int) ∈ gx_ws := gx_in (List.mem_of_getElem? (i := 317) (by decide +kernel)) rfl
theorem wS_X6_end : gx_St yX6_end mX6_end 1 := ⟨wC_X6_end, wI_X6, ⟨by decide +kernel, by decide +kernel, by decide +kernel⟩, by decide⟩
theorem wM_X6_end : Cond.instanceMethod yX6_end ∈ gx_ws := gx_in (List.mem_of_getElem? (i := 315) (by decide +kernel)) rfl
theorem wV_X6_end : Cond.selects RX6 yX6_end yX6_end ∈ gx_ws := gx_in (List.mem_of_getElem? (i := 316) (by decide +kernel)) rfl
theorem wC_X6_text : Cond.code yX6_text cX6_text 3 (some .int) ∈ gx_ws := gx_in (List.mem_of_getElem? (i := 321) (by decide +kernel)) rfl
theorem wS_X6_text : gx_St yX6_text mX6_text 0 := ⟨wC_X6_text, wI_X6, ⟨by decide +kernel, by decide +kernel, by decide +kernel⟩, by decide⟩
theorem wM_X6_text : Cond.instanceMethod yX6_text ∈ gx_ws := gx_in (List.mem_of_getElem? (i := 319) (by decide +kernel)) rfl
theorem wV_X6_text : Cond.selects RX6 yX6_text yX6_text ∈ gx_ws := gx_in (List.mem_of_getElem? (i := 320) (by decide +kernel)) rfl
theorem wC_X6_fault : Cond.code yX6_fault cX6_fault 1 (some .int) ∈ gx_ws := gx_in (List.mem_of_getElem? (i := 459) (by decide +kernel)) rfl
theorem wS_X6_fault : gx_St yX6_fault mX6_fault 0 := ⟨wC_X6_fault, wI_X6, ⟨by decide +kernel, by decide +kernel, by decide +kernel⟩, by decide⟩
theorem wM_X6_fault : Cond.instanceMethod yX6_fault ∈ gx_ws := gx_in (List.mem_of_getElem? (i := 457) (by decide +kernel)) rfl
theorem wV_X6_fault : Cond.selects RX6 yX6_fault yX6_fault ∈ gx_ws := gx_in (List.mem_of_getElem? (i := 458) (by decide +kernel)) rfl
theorem wC_X6_rule : Cond.code yX6_rule cX6_rule 2 (some .int) ∈ gx_ws := gx_in (List.mem_of_getElem? (i := 463) (by decide +kernel)) rfl
theorem wS_X6_rule : gx_St yX6_rule mX6_rule 1 := ⟨wC_X6_rule, wI_X6, ⟨by decide +kernel, by decide +kernel, by decide +kernel⟩, by decide⟩
theorem wM_X6_rule : Cond.instanceMethod yX6_rule ∈ gx_ws := gx_in (List.mem_of_getElem? (i := 461) (by decide +kernel)) rfl
theorem wV_X6_rule : Cond.selects RX6 yX6_rule yX6_rule ∈ gx_ws := gx_in (List.mem_of_getElem? (i := 462) (by decide +kernel)) rfl
theorem wC_X6_glove : Cond.code yX6_glove cX6_glove 3 (some .int) ∈ gx_ws := gx_in (List.mem_of_getElem? (i := 479) (by decide +kernel)) rfl
theorem wS_X6_glove : gx_St yX6_glove mX6_glove 2 := ⟨wC_X6_glove, wI_X6, ⟨by decide +kernel, by decide +kernel, by decide +kernel⟩, by decide⟩
theorem wM_X6_glove : Cond.instanceMethod yX6_glove ∈ gx_ws := gx_in (List.mem_of_getElem? (i := 477) (by decide +kernel)) rfl
theorem wV_X6_glove : Cond.selects RX6 yX6_glove yX6_glove ∈ gx_ws := gx_in (List.mem_of_getElem? (i := 478) (by decide +kernel)) rfl
theorem wC_X6_door : Cond.code yX6_door cX6_door 3 (some .int) ∈ gx_ws := gx_in (List.mem_of_getElem? (i := 506) (by decide +kernel)) rfl
theorem wS_X6_door : gx_St yX6_door mX6_door 2 := ⟨wC_X6_door, wI_X6, ⟨by decide +kernel, by decide +kernel, by decide +kernel⟩, by decide⟩
theorem wM_X6_door : Cond.instanceMethod yX6_door ∈ gx_ws := gx_in (List.mem_of_getElem? (i := 504) (by decide +kernel)) rfl
theorem wV_X6_door : Cond.selects RX6 yX6_door yX6_door ∈ gx_ws := gx_in (List.mem_of_getElem? (i := 505) (by decide +kernel)) rfl
theorem wC_X6_stop : Cond.code yX6_stop cX6_stop 2 (some .int) ∈ gx_ws := gx_in (List.mem_of_getElem? (i := 517) (by decide +kernel)) rfl
theorem wS_X6_stop : gx_St yX6_stop mX6_stop 1 := ⟨wC_X6_stop, wI_X6, ⟨by decide +kernel, by decide +kernel, by decide +kernel⟩, by decide⟩
theorem wM_X6_stop : Cond.instanceMethod yX6_stop ∈ gx_ws := gx_in (List.mem_of_getElem? (i := 515) (by decide +kernel)) rfl
theorem wV_X6_stop : Cond.selects RX6 yX6_stop yX6_stop ∈ gx_ws := gx_in (List.mem_of_getElem? (i := 516) (by decide +kernel)) rfl
theorem wC_X6_alter : Cond.code yX6_alter cX6_alter 6 (some .int) ∈ gx_ws := gx_in (List.mem_of_getElem? (i := 525) (by decide +kernel)) rfl
theorem wS_X6_alter : gx_St yX6_alter mX6_alter 3 := ⟨wC_X6_alter, wI_X6, ⟨by decide +kernel, by decide +kernel, by decide +kernel⟩, by decide⟩
theorem wM_X6_alter : Cond.instanceMethod yX6_alter ∈ gx_ws := gx_in (List.mem_of_getElem? (i := 523) (by decide +kernel)) rfl
theorem wV_X6_alter : Cond.selects RX6 yX6_alter yX6_alter ∈ gx_ws := gx_in (List.mem_of_getElem? (i := 524) (by decide +kernel)) rfl
theorem wC_X6_fame : Cond.code yX6_fame cX6_fame 4 (some .int) ∈ gx_ws := gx_in (List.mem_of_getElem? (i := 540) (by decide +kernel)) rfl
theorem wS_X6_fame : gx_St yX6_fame mX6_fame 2 := ⟨wC_X6_fame, wI_X6, ⟨by decide +kernel, by decide +kernel, by decide +kernel⟩, by decide⟩
theorem wM_X6_fame : Cond.instanceMethod yX6_fame ∈ gx_ws := gx_in (List.mem_of_getElem? (i := 538) (by decide +kernel)) rfl
theorem wV_X6_fame : Cond.selects RX6 yX6_fame yX6_fame ∈ gx_ws := gx_in (List.mem_of_getElem? (i := 539) (by decide +kernel)) rfl
theorem wC_X6_leave : Cond.code yX6_leave cX6_leave 2 (some .int) ∈ gx_ws := gx_in (List.mem_of_getElem? (i := 544) (by decide +kernel)) rfl
theorem wS_X6_leave : gx_St yX6_leave mX6_leave 1 := ⟨wC_X6_leave, wI_X6, ⟨by decide +kernel, by decide +kernel, by decide +kernel⟩, by decide⟩
theorem wM_X6_leave : Cond.instanceMethod yX6_leave ∈ gx_ws := gx_in (List.mem_of_getElem? (i := 542) (by decide +kernel)) rfl
theorem wV_X6_leave : Cond.selects RX6 yX6_leave yX6_leave ∈ gx_ws := gx_in (List.mem_of_getElem? (i := 543) (by decide +kernel)) rfl
theorem wC_X6_go : Cond.code yX6_go cX6_go 3 (some .int) ∈ gx_ws := gx_in (List.mem_of_getElem? (i := 548) (by decide +kernel)) rfl
theorem wS_X6_go : gx_St yX6_go mX6_go 1 := ⟨wC_X6_go, wI_X6, ⟨by decide +kernel, by decide +kernel, by decide +kernel⟩, by decide⟩
theorem wM_X6_go : Cond.instanceMethod yX6_go ∈ gx_ws := gx_in (List.mem_of_getElem? (i := 546) (by decide +kernel)) rfl
theorem wV_X6_go : Cond.selects RX6 yX6_go yX6_go ∈ gx_ws := gx_in (List.mem_of_getElem? (i := 547) (by decide +kernel)) rfl
theorem wC_X6_call : Cond.code yX6_call cX6_call 2 (some .int) ∈ gx_ws := gx_in (List.mem_of_getElem? (i := 556) (by decide +kernel)) rfl
theorem wS_X6_call : gx_St yX6_call mX6_call 1 := ⟨wC_X6_call, wI_X6, ⟨by decide +kernel, by decide +kernel, by decide +kernel⟩, by decide⟩
theorem wM_X6_call : Cond.instanceMethod yX6_call ∈ gx_ws := gx_in (List.mem_of_getElem? (i := 554) (by decide +kernel)) rfl
theorem wV_X6_call : Cond.selects RX6 yX6_call yX6_call ∈ gx_ws := gx_in (List.mem_of_getElem? (i := 555) (by decide +kernel)) rfl
theorem wC_X6_cut : Cond.code yX6_cut cX6_cut 3 (some .int) ∈ gx_ws := gx_in (List.mem_of_getElem? (i := 560) (by decide +kernel)) rfl
theorem wS_X6_cut : gx_St yX6_cut mX6_cut 1 := ⟨wC_X6_cut, wI_X6, ⟨by decide +kernel, by decide +kernel, by decide +kernel⟩, by decide⟩
theorem wM_X6_cut : Cond.instanceMethod yX6_cut ∈ gx_ws := gx_in (List.mem_of_getElem? (i := 558) (by decide +kernel)) rfl
theorem wV_X6_cut : Cond.selects RX6 yX6_cut yX6_cut ∈ gx_ws := gx_in (List.mem_of_getElem? (i := 559) (by decide +kernel)) rfl
theorem wC_X6_days : Cond.code yX6_days cX6_days 3 (some .int) ∈ gx_ws := gx_in (List.mem_of_getElem? (i := 564) (by decide +kernel)) rfl
theorem wS_X6_days : gx_St yX6_days mX6_days 1 := ⟨wC_X6_days, wI_X6, ⟨by decide +kernel, by decide +kernel, by decide +kernel⟩, by decide⟩
theorem wM_X6_days : Cond.instanceMethod yX6_days ∈ gx_ws := gx_in (List.mem_of_getElem? (i := 562) (by decide +kernel)) rfl
theorem wV_X6_days : Cond.selects RX6 yX6_days yX6_days ∈ gx_ws := gx_in (List.mem_of_getElem? (i := 563) (by decide +kernel)) rfl
theorem wC_X6_runs : Cond.code yX6_runs cX6_runs 3 (some .int) ∈ gx_ws := gx_in (List.mem_of_getElem? (i := 582) (by decide +kernel)) rfl
theorem wS_X6_runs : gx_St yX6_runs mX6_runs 2 := ⟨wC_X6_runs, wI_X6, ⟨by decide +kernel, by decide +kernel, by decide +kernel⟩, by decide⟩
theorem wM_X6_runs : Cond.instanceMethod yX6_runs ∈ gx_ws := gx_in (List.mem_of_getElem? (i := 580) (by decide +kernel)) rfl
theorem wV_X6_runs : Cond.selects RX6 yX6_runs yX6_runs ∈ gx_ws := gx_in (List.mem_of_getElem? (i := 581) (by decide +kernel)) rfl
theorem wC_X6_ahead : Cond.code yX6_ahead cX6_ahead 4 (some .int) ∈ gx_ws := gx_in (List.mem_of_getElem? (i := 590) (by decide +kernel)) rfl
theorem wS_X6_ahead : gx_St yX6_ahead mX6_ahead 3 := ⟨wC_X6_ahead, wI_X6, ⟨by decide +kernel, by decide +kernel, by decide +kernel⟩, by decide⟩
theorem wM_X6_ahead : Cond.instanceMethod yX6_ahead ∈ gx_ws := gx_in (List.mem_of_getElem? (i := 588) (by decide +kernel)) rfl
theorem wV_X6_ahead : Cond.selects RX6 yX6_ahead yX6_ahead ∈ gx_ws := gx_in (List.mem_of_getElem? (i := 589) (by decide +kernel)) rfl
theorem wC_X6_meets : Cond.code yX6_meets cX6_meets 2 (some .int) ∈ gx_ws := gx_in (List.mem_of_getElem? (i := 594) (by decide +kernel)) rfl
theorem wS_X6_meets : gx_St yX6_meets mX6_meets 1 := ⟨wC_X6_meets, wI_X6, ⟨by decide +kernel, by decide +kernel, by decide +kernel⟩, by decide⟩
theorem wM_X6_meets : Cond.instanceMethod yX6_meets ∈ gx_ws := gx_in (List.mem_of_getElem? (i := 592) (by decide +kernel)) rfl
theorem wV_X6_meets : Cond.selects RX6 yX6_meets yX6_meets ∈ gx_ws := gx_in (List.mem_of_getElem? (i := 593) (by decide +kernel)) rfl
theorem wC_X6_place : Cond.code yX6_place cX6_place 4 (some .int) ∈ gx_ws := gx_in (List.mem_of_getElem? (i := 598) (by decide +kernel)) rfl
theorem wS_X6_place : gx_St yX6_place mX6_place 3 := ⟨wC_X6_place, wI_X6, ⟨by decide +kernel, by decide +kernel, by decide +kernel⟩, by decide⟩
theorem wM_X6_place : Cond.instanceMethod yX6_place ∈ gx_ws := gx_in (List.mem_of_getElem? (i := 596) (by decide +kernel)) rfl
theorem wV_X6_place : Cond.selects RX6 yX6_place yX6_place ∈ gx_ws := gx_in (List.mem_of_getElem? (i := 597) (by decide +kernel)) rfl
theorem wC_X6_extra : Cond.code yX6_extra cX6_extra 3 (some .int) ∈ gx_ws := gx_in (List.mem_of_getElem? (i := 619) (by decide +kernel)) rfl
theorem wS_X6_extra : gx_St yX6_extra mX6_extra 2 := ⟨wC_X6_extra, wI_X6, ⟨by decide +kernel, by decide +kernel, by decide +kernel⟩, by decide⟩
theorem wM_X6_extra : Cond.instanceMethod yX6_extra ∈ gx_ws := gx_in (List.mem_of_getElem? (i := 617) (by decide +kernel)) rfl
theorem wV_X6_extra : Cond.selects RX6 yX6_extra yX6_extra ∈ gx_ws := gx_in (List.mem_of_getElem? (i := 618) (by decide +kernel)) rfl
theorem wC_X6_swap : Cond.code yX6_swap cX6_swap 8 (some .int) ∈ gx_ws := gx_in (List.mem_of_getElem? (i := 623) (by decide +kernel)) rfl
theorem wS_X6_swap : gx_St yX6_swap mX6_swap 2 := ⟨wC_X6_swap, wI_X6, ⟨by decide +kernel, by decide +kernel, by decide +kernel⟩, by decide⟩
theorem wM_X6_swap : Cond.instanceMethod yX6_swap ∈ gx_ws := gx_in (List.mem_of_getElem? (i := 621) (by decide +kernel)) rfl
theorem wV_X6_swap : Cond.selects RX6 yX6_swap yX6_swap ∈ gx_ws := gx_in (List.mem_of_getElem? (i := 622) (by decide +kernel)) rfl
theorem wC_X6_shun : Cond.code yX6_shun cX6_shun 6 (some .int) ∈ gx_ws := gx_in (List.mem_of_getElem? (i := 635) (by decide +kernel)) rfl
theorem wS_X6_shun : gx_St yX6_shun mX6_shun 2 := ⟨wC_X6_shun, wI_X6, ⟨by decide +kernel, by decide +kernel, by decide +kernel⟩, by decide⟩
theorem wM_X6_shun : Cond.instanceMethod yX6_shun ∈ gx_ws := gx_in (List.mem_of_getElem? (i := 633) (by decide +kernel)) rfl
theorem wV_X6_shun : Cond.selects RX6 yX6_shun yX6_shun ∈ gx_ws := gx_in (List.mem_of_getElem? (i := 634) (by decide +kernel)) rfl
theorem wC_X6_need : Cond.code yX6_need cX6_need 3 (some .int) ∈ gx_ws := gx_in (List.mem_of_getElem? (i := 643) (by decide +kernel)) rfl
theorem wS_X6_need : gx_St yX6_need mX6_need 2 := ⟨wC_X6_need, wI_X6, ⟨by decide +kernel, by decide +kernel, by decide +kernel⟩, by decide⟩
theorem wM_X6_need : Cond.instanceMethod yX6_need ∈ gx_ws := gx_in (List.mem_of_getElem? (i := 641) (by decide +kernel)) rfl
theorem wV_X6_need : Cond.selects RX6 yX6_need yX6_need ∈ gx_ws := gx_in (List.mem_of_getElem? (i := 642) (by decide +kernel)) rfl
theorem wC_X6_kind : Cond.code yX6_kind cX6_kind 4 (some .int) ∈ gx_ws := gx_in (List.mem_of_getElem? (i := 647) (by decide +kernel)) rfl
theorem wS_X6_kind : gx_St yX6_kind mX6_kind 3 := ⟨wC_X6_kind, wI_X6, ⟨by decide +kernel, by decide +kernel, by decide +kernel⟩, by decide⟩
theorem wM_X6_kind : Cond.instanceMethod yX6_kind ∈ gx_ws := gx_in (List.mem_of_getElem? (i := 645) (by decide +kernel)) rfl
theorem wV_X6_kind : Cond.selects RX6 yX6_kind yX6_kind ∈ gx_ws := gx_in (List.mem_of_getElem? (i := 646) (by decide +kernel)) rfl
theorem wC_X6_drop : Cond.code yX6_drop cX6_drop 4 (some .int) ∈ gx_ws := gx_in (List.mem_of_getElem? (i := 655) (by decide +kernel)) rfl
theorem wS_X6_drop : gx_St yX6_drop mX6_drop 3 := ⟨wC_X6_drop, wI_X6, ⟨by decide +kernel, by decide +kernel, by decide +kernel⟩, by decide⟩
theorem wM_X6_drop : Cond.instanceMethod yX6_drop ∈ gx_ws := gx_in (List.mem_of_getElem? (i := 653) (by decide +kernel)) rfl
theorem wV_X6_drop : Cond.selects RX6 yX6_drop yX6_drop ∈ gx_ws := gx_in (List.mem_of_getElem? (i := 654) (by decide +kernel)) rfl
theorem wC_X6_luck : Cond.code yX6_luck cX6_luck 5 (some .long) ∈ gx_ws := gx_in (List.mem_of_getElem? (i := 659) (by decide +kernel)) rfl
theorem wS_X6_luck : gx_St yX6_luck mX6_luck 4 := ⟨wC_X6_luck, wI_X6, ⟨by decide +kernel, by decide +kernel, by decide +kernel⟩, by decide⟩
theorem wM_X6_luck : Cond.instanceMethod yX6_luck ∈ gx_ws := gx_in (List.mem_of_getElem? (i := 657) (by decide +kernel)) rfl
theorem wV_X6_luck : Cond.selects RX6 yX6_luck yX6_luck ∈ gx_ws := gx_in (List.mem_of_getElem? (i := 658) (by decide +kernel)) rfl
theorem wC_X6_mean : Cond.code yX6_mean cX6_mean 4 (some .long) ∈ gx_ws := gx_in (List.mem_of_getElem? (i := 679) (by decide +kernel)) rfl
theorem wS_X6_mean : gx_St yX6_mean mX6_mean 3 := ⟨wC_X6_mean, wI_X6, ⟨by decide +kernel, by decide +kernel, by decide +kernel⟩, by decide⟩
theorem wM_X6_mean : Cond.instanceMethod yX6_mean ∈ gx_ws := gx_in (List.mem_of_getElem? (i := 677) (by decide +kernel)) rfl
theorem wV_X6_mean : Cond.selects RX6 yX6_mean yX6_mean ∈ gx_ws := gx_in (List.mem_of_getElem? (i := 678) (by decide +kernel)) rfl
theorem wC_X6_see : Cond.code yX6_see cX6_see 4 (some .int) ∈ gx_ws := gx_in (List.mem_of_getElem? (i := 683) (by decide +kernel)) rfl
theorem wS_X6_see : gx_St yX6_see mX6_see 3 := ⟨wC_X6_see, wI_X6, ⟨by decide +kernel, by decide +kernel, by decide +kernel⟩, by decide⟩
theorem wM_X6_see : Cond.instanceMethod yX6_see ∈ gx_ws := gx_in (List.mem_of_getElem? (i := 681) (by decide +kernel)) rfl
theorem wV_X6_see : Cond.selects RX6 yX6_see yX6_see ∈ gx_ws := gx_in (List.mem_of_getElem? (i := 682) (by decide +kernel)) rfl
theorem wC_X6_forget : Cond.code yX6_forget cX6_forget 3 (some .int) ∈ gx_ws := gx_in (List.mem_of_getElem? (i := 691) (by decide +kernel)) rfl
theorem wS_X6_forget : gx_St yX6_forget mX6_forget 1 := ⟨wC_X6_forget, wI_X6, ⟨by decide +kernel, by decide +kernel, by decide +kernel⟩, by decide⟩
theorem wM_X6_forget : Cond.instanceMethod yX6_forget ∈ gx_ws := gx_in (List.mem_of_getElem? (i := 689) (by decide +kernel)) rfl
theorem wV_X6_forget : Cond.selects RX6 yX6_forget yX6_forget ∈ gx_ws := gx_in (List.mem_of_getElem? (i := 690) (by decide +kernel)) rfl
theorem wC_X6_kinds : Cond.code yX6_kinds cX6_kinds 2 (some .int) ∈ gx_ws := gx_in (List.mem_of_getElem? (i := 695) (by decide +kernel)) rfl
theorem wS_X6_kinds : gx_St yX6_kinds mX6_kinds 1 := ⟨wC_X6_kinds, wI_X6, ⟨by decide +kernel, by decide +kernel, by decide +kernel⟩, by decide⟩
theorem wM_X6_kinds : Cond.instanceMethod yX6_kinds ∈ gx_ws := gx_in (List.mem_of_getElem? (i := 693) (by decide +kernel)) rfl
theorem wV_X6_kinds : Cond.selects RX6 yX6_kinds yX6_kinds ∈ gx_ws := gx_in (List.mem_of_getElem? (i := 694) (by decide +kernel)) rfl
theorem wC_X6_doors : Cond.code yX6_doors cX6_doors 2 (some .int) ∈ gx_ws := gx_in (List.mem_of_getElem? (i := 716) (by decide +kernel)) rfl
theorem wS_X6_doors : gx_St yX6_doors mX6_doors 1 := ⟨wC_X6_doors, wI_X6, ⟨by decide +kernel, by decide +kernel, by decide +kernel⟩, by decide⟩
theorem wM_X6_doors : Cond.instanceMethod yX6_doors ∈ gx_ws := gx_in (List.mem_of_getElem? (i := 714) (by decide +kernel)) rfl
theorem wV_X6_doors : Cond.selects RX6 yX6_doors yX6_doors ∈ gx_ws := gx_in (List.mem_of_getElem? (i := 715) (by decide +kernel)) rfl
theorem wC_X6_ask : Cond.code yX6_ask cX6_ask 9 (some .int) ∈ gx_ws := gx_in (List.mem_of_getElem? (i := 720) (by decide +kernel)) rfl
theorem wS_X6_ask : gx_St yX6_ask mX6_ask 2 := ⟨wC_X6_ask, wI_X6, ⟨by decide +kernel, by decide +kernel, by decide +kernel⟩, by decide⟩
theorem wM_X6_ask : Cond.instanceMethod yX6_ask ∈ gx_ws := gx_in (List.mem_of_getElem? (i := 718) (by decide +kernel)) rfl
theorem wV_X6_ask : Cond.selects RX6 yX6_ask yX6_ask ∈ gx_ws := gx_in (List.mem_of_getElem? (i := 719) (by decide +kernel)) rfl
theorem wC_X6_drift : Cond.code yX6_drift cX6_drift 6 (some .int) ∈ gx_ws := gx_in (List.mem_of_getElem? (i := 729) (by decide +kernel)) rfl
theorem wS_X6_drift : gx_St yX6_drift mX6_drift 3 := ⟨wC_X6_drift, wI_X6, ⟨by decide +kernel, by decide +kernel, by decide +kernel⟩, by decide⟩
theorem wM_X6_drift : Cond.instanceMethod yX6_drift ∈ gx_ws := gx_in (List.mem_of_getElem? (i := 727) (by decide +kernel)) rfl
theorem wV_X6_drift : Cond.selects RX6 yX6_drift yX6_drift ∈ gx_ws := gx_in (List.mem_of_getElem? (i := 728) (by decide +kernel)) rfl
theorem wC_X6_keep : Cond.code yX6_keep cX6_keep 4 (some .int) ∈ gx_ws := gx_in (List.mem_of_getElem? (i := 734) (by decide +kernel)) rfl
theorem wS_X6_keep : gx_St yX6_keep mX6_keep 1 := ⟨wC_X6_keep, wI_X6, ⟨by decide +kernel, by decide +kernel, by decide +kernel⟩, by decide⟩
theorem wM_X6_keep : Cond.instanceMethod yX6_keep ∈ gx_ws := gx_in (List.mem_of_getElem? (i := 732) (by decide +kernel)) rfl
theorem wV_X6_keep : Cond.selects RX6 yX6_keep yX6_keep ∈ gx_ws := gx_in (List.mem_of_getElem? (i := 733) (by decide +kernel)) rfl
theorem wC_X6_back : Cond.code yX6_back cX6_back 3 (some .int) ∈ gx_ws := gx_in (List.mem_of_getElem? (i := 743) (by decide +kernel)) rfl
theorem wS_X6_back : gx_St yX6_back mX6_back 1 := ⟨wC_X6_back, wI_X6, ⟨by decide +kernel, by decide +kernel, by decide +kernel⟩, by decide⟩
theorem wM_X6_back : Cond.instanceMethod yX6_back ∈ gx_ws := gx_in (List.mem_of_getElem? (i := 741) (by decide +kernel)) rfl
theorem wV_X6_back : Cond.selects RX6 yX6_back yX6_back ∈ gx_ws := gx_in (List.mem_of_getElem? (i := 742) (by decide +kernel)) rfl
theorem wC_X6_sheet : Cond.code yX6_sheet cX6_sheet 4 (some .int) ∈ gx_ws := gx_in (List.mem_of_getElem? (i := 747) (by decide +kernel)) rfl
theorem wS_X6_sheet : gx_St yX6_sheet mX6_sheet 3 := ⟨wC_X6_sheet, wI_X6, ⟨by decide +kernel, by decide +kernel, by decide +kernel⟩, by decide⟩
theorem wM_X6_sheet : Cond.instanceMethod yX6_sheet ∈ gx_ws := gx_in (List.mem_of_getElem? (i := 745) (by decide +kernel)) rfl
theorem wV_X6_sheet : Cond.selects RX6 yX6_sheet yX6_sheet ∈ gx_ws := gx_in (List.mem_of_getElem? (i := 746) (by decide +kernel)) rfl
theorem wC_X6_lay : Cond.code yX6_lay cX6_lay 5 (some .int) ∈ gx_ws := gx_in (List.mem_of_getElem? (i := 759) (by decide +kernel)) rfl
theorem wS_X6_lay : gx_St yX6_lay mX6_lay 3 := ⟨wC_X6_lay, wI_X6, ⟨by decide +kernel, by decide +kernel, by decide +kernel⟩, by decide⟩
theorem wM_X6_lay : Cond.instanceMethod yX6_lay ∈ gx_ws := gx_in (List.mem_of_getElem? (i := 757) (by decide +kernel)) rfl
theorem wV_X6_lay : Cond.selects RX6 yX6_lay yX6_lay ∈ gx_ws := gx_in (List.mem_of_getElem? (i := 758) (by decide +kernel)) rfl
theorem wC_X6_read : Cond.code yX6_read cX6_read 9 (some .int) ∈ gx_ws := gx_in (List.mem_of_getElem? (i := 776) (by decide +kernel)) rfl
theorem wS_X6_read : gx_St yX6_read mX6_read 4 := ⟨wC_X6_read, wI_X6, ⟨by decide +kernel, by decide +kernel, by decide +kernel⟩, by decide⟩
theorem wM_X6_read : Cond.instanceMethod yX6_read ∈ gx_ws := gx_in (List.mem_of_getElem? (i := 774) (by decide +kernel)) rfl
theorem wV_X6_read : Cond.selects RX6 yX6_read yX6_read ∈ gx_ws := gx_in (List.mem_of_getElem? (i := 775) (by decide +kernel)) rfl
theorem wC_X6_torn : Cond.code yX6_torn cX6_torn 1 (some .int) ∈ gx_ws := gx_in (List.mem_of_getElem? (i := 785) (by decide +kernel)) rfl
theorem wS_X6_torn : gx_St yX6_torn mX6_torn 0 := ⟨wC_X6_torn, wI_X6, ⟨by decide +kernel, by decide +kernel, by decide +kernel⟩, by decide⟩
theorem wM_X6_torn : Cond.instanceMethod yX6_torn ∈ gx_ws := gx_in (List.mem_of_getElem? (i := 783) (by decide +kernel)) rfl
theorem wV_X6_torn : Cond.selects RX6 yX6_torn yX6_torn ∈ gx_ws := gx_in (List.mem_of_getElem? (i := 784) (by decide +kernel)) rfl
theorem wC_X6_count : Cond.code yX6_count cX6_count 2 (some .int) ∈ gx_ws := gx_in (List.mem_of_getElem? (i := 789) (by decide +kernel)) rfl
theorem wS_X6_count : gx_St yX6_count mX6_count 1 := ⟨wC_X6_count, wI_X6, ⟨by decide +kernel, by decide +kernel, by decide +kernel⟩, by decide⟩
theorem wM_X6_count : Cond.instanceMethod yX6_count ∈ gx_ws := gx_in (List.mem_of_getElem? (i := 787) (by decide +kernel)) rfl
theorem wV_X6_count : Cond.selects RX6 yX6_count yX6_count ∈ gx_ws := gx_in (List.mem_of_getElem? (i := 788) (by decide +kernel)) rfl
theorem wC_X6_isWithin : Cond.code yX6_isWithin cX6_isWithin 2 (some .boolean) ∈ gx_ws := gx_in (List.mem_of_getElem? (i := 313) (by decide +kernel)) rfl
end
section
theorem wS_X6_isWithin : gx_St yX6_isWithin mX6_isWithin 2 := ⟨wC_X6_isWithin, wI_X6, ⟨by decide +kernel, by decide +kernel, by decide +kernel⟩, by decide⟩
theorem wT_X6_isWithin : Cond.static yX6_isWithin ∈ gx_ws := gx_in (List.mem_of_getElem? (i := 312) (by decide +kernel)) rfl
theorem wC_X6_isDoor : Cond.code yX6_isDoor cX6_isDoor 1 (some .boolean) ∈ gx_ws := gx_in (List.mem_of_getElem? (i := 509) (by decide +kernel)) rfl
theorem wS_X6_isDoor : gx_St yX6_isDoor mX6_isDoor 1 := ⟨wC_X6_isDoor, wI_X6, ⟨by decide +kernel, by decide +kernel, by decide +kernel⟩, by decide⟩
theorem wT_X6_isDoor : Cond.static yX6_isDoor ∈ gx_ws := gx_in (List.mem_of_getElem? (i := 508) (by decide +kernel)) rfl
theorem wC_X6_isSheet : Cond.code yX6_isSheet cX6_isSheet 1 (some .boolean) ∈ gx_ws := gx_in (List.mem_of_getElem? (i := 750) (by decide +kernel)) rfl
theorem wS_X6_isSheet : gx_St yX6_isSheet mX6_isSheet 1 := ⟨wC_X6_isSheet, wI_X6, ⟨by decide +kernel, by decide +kernel, by decide +kernel⟩, by decide⟩
theorem wT_X6_isSheet : Cond.static yX6_isSheet ∈ gx_ws := gx_in (List.mem_of_getElem? (i := 749) (by decide +kernel)) rfl
theorem wC_X6_isGlove : Cond.code yX6_isGlove cX6_isGlove 2 (some .boolean) ∈ gx_ws := gx_in (List.mem_of_getElem? (i := 483) (by decide +kernel)) rfl
theorem wS_X6_isGlove : gx_St yX6_isGlove mX6_isGlove 1 := ⟨wC_X6_isGlove, wI_X6, ⟨by decide +kernel, by decide +kernel, by decide +kernel⟩, by decide⟩
theorem wM_X6_isGlove : Cond.instanceMethod yX6_isGlove ∈ gx_ws := gx_in (List.mem_of_getElem? (i := 482) (by decide +kernel)) rfl
theorem wV_X6_isGlove : Cond.selects RX6 yX6_isGlove yX6_isGlove ∈ gx_ws := gx_in (List.mem_of_getElem? (i := 13) (by decide +kernel)) rfl
theorem wC_X6_isCall : Cond.code yX6_isCall cX6_isCall 2 (some .boolean) ∈ gx_ws := gx_in (List.mem_of_getElem? (i := 521) (by decide +kernel)) rfl
theorem wS_X6_isCall : gx_St yX6_isCall mX6_isCall 1 := ⟨wC_X6_isCall, wI_X6, ⟨by decide +kernel, by decide +kernel, by decide +kernel⟩, by decide⟩
theorem wM_X6_isCall : Cond.instanceMethod yX6_isCall ∈ gx_ws := gx_in (List.mem_of_getElem? (i := 520) (by decide +kernel)) rfl
theorem wV_X6_isCall : Cond.selects RX6 yX6_isCall yX6_isCall ∈ gx_ws := gx_in (List.mem_of_getElem? (i := 14) (by decide +kernel)) rfl
theorem wC_X6_greatestOf : Cond.code yX6_greatestOf cX6_greatestOf 1 (some .int) ∈ gx_ws := gx_in (List.mem_of_getElem? (i := 532) (by decide +kernel)) rfl
theorem wS_X6_greatestOf : gx_St yX6_greatestOf mX6_greatestOf 1 := ⟨wC_X6_greatestOf, wI_X6, ⟨by decide +kernel, by decide +kernel, by decide +kernel⟩, by decide⟩
theorem wT_X6_greatestOf : Cond.static yX6_greatestOf ∈ gx_ws := gx_in (List.mem_of_getElem? (i := 531) (by decide +kernel)) rfl
theorem wC_X6_refusalOf : Cond.code yX6_refusalOf cX6_refusalOf 4 (some .int) ∈ gx_ws := gx_in (List.mem_of_getElem? (i := 529) (by decide +kernel)) rfl
theorem wS_X6_refusalOf : gx_St yX6_refusalOf mX6_refusalOf 3 := ⟨wC_X6_refusalOf, wI_X6, ⟨by decide +kernel, by decide +kernel, by decide +kernel⟩, by decide⟩
theorem wM_X6_refusalOf : Cond.instanceMethod yX6_refusalOf ∈ gx_ws := gx_in (List.mem_of_getElem? (i := 528) (by decide +kernel)) rfl
theorem wV_X6_refusalOf : Cond.selects RX6 yX6_refusalOf yX6_refusalOf ∈ gx_ws := gx_in (List.mem_of_getElem? (i := 15) (by decide +kernel)) rfl
theorem wC_X6_farOf : Cond.code yX6_farOf cX6_farOf 3 (some .int) ∈ gx_ws := gx_in (List.mem_of_getElem? (i := 491) (by decide +kernel)) rfl
theorem wS_X6_farOf : gx_St yX6_farOf mX6_farOf 2 := ⟨wC_X6_farOf, wI_X6, ⟨by decide +kernel, by decide +kernel, by decide +kernel⟩, by decide⟩
theorem wT_X6_farOf : Cond.static yX6_farOf ∈ gx_ws := gx_in (List.mem_of_getElem? (i := 490) (by decide +kernel)) rfl
theorem wC_X6_sumOf : Cond.code yX6_sumOf cX6_sumOf 4 (some .int) ∈ gx_ws := gx_in (List.mem_of_getElem? (i := 797) (by decide +kernel)) rfl
theorem wS_X6_sumOf : gx_St yX6_sumOf mX6_sumOf 2 := ⟨wC_X6_sumOf, wI_X6, ⟨by decide +kernel, by decide +kernel, by decide +kernel⟩, by decide⟩
theorem wT_X6_sumOf : Cond.static yX6_sumOf ∈ gx_ws := gx_in (List.mem_of_getElem? (i := 796) (by decide +kernel)) rfl
theorem wC_X6_imagesKept : Cond.code yX6_imagesKept cX6_imagesKept 3 (some .int) ∈ gx_ws := gx_in (List.mem_of_getElem? (i := 793) (by decide +kernel)) rfl
theorem wS_X6_imagesKept : gx_St yX6_imagesKept mX6_imagesKept 0 := ⟨wC_X6_imagesKept, wI_X6, ⟨by decide +kernel, by decide +kernel, by decide +kernel⟩, by decide⟩
theorem wM_X6_imagesKept : Cond.instanceMethod yX6_imagesKept ∈ gx_ws := gx_in (List.mem_of_getElem? (i := 792) (by decide +kernel)) rfl
theorem wV_X6_imagesKept : Cond.selects RX6 yX6_imagesKept yX6_imagesKept ∈ gx_ws := gx_in (List.mem_of_getElem? (i := 26) (by decide +kernel)) rfl
theorem wC_X6_firstPairing : Cond.code yX6_firstPairing cX6_firstPairing 4 (some .int) ∈ gx_ws := gx_in (List.mem_of_getElem? (i := 586) (by decide +kernel)) rfl
theorem wS_X6_firstPairing : gx_St yX6_firstPairing mX6_firstPairing 2 := ⟨wC_X6_firstPairing, wI_X6, ⟨by decide +kernel, by decide +kernel, by decide +kernel⟩, by decide⟩
theorem wM_X6_firstPairing : Cond.instanceMethod yX6_firstPairing ∈ gx_ws := gx_in (List.mem_of_getElem? (i := 585) (by decide +kernel)) rfl
theorem wV_X6_firstPairing : Cond.selects RX6 yX6_firstPairing yX6_firstPairing ∈ gx_ws := gx_in (List.mem_of_getElem? (i := 17) (by decide +kernel)) rfl
theorem wC_X6_nameBehind : Cond.code yX6_nameBehind cX6_nameBehind 2 (some .int) ∈ gx_ws := gx_in (List.mem_of_getElem? (i := 627) (by decide +kernel)) rfl
theorem wS_X6_nameBehind : gx_St yX6_nameBehind mX6_nameBehind 1 := ⟨wC_X6_nameBehind, wI_X6, ⟨by decide +kernel, by decide +kernel, by decide +kernel⟩, by decide⟩
theorem wM_X6_nameBehind : Cond.instanceMethod yX6_nameBehind ∈ gx_ws := gx_in (List.mem_of_getElem? (i := 626) (by decide +kernel)) rfl
theorem wV_X6_nameBehind : Cond.selects RX6 yX6_nameBehind yX6_nameBehind ∈ gx_ws := gx_in (List.mem_of_getElem? (i := 19) (by decide +kernel)) rfl
theorem wC_X6_nameWithSwap : Cond.code yX6_nameWithSwap cX6_nameWithSwap 4 (some .int) ∈ gx_ws := gx_in (List.mem_of_getElem? (i := 631) (by decide +kernel)) rfl
theorem wS_X6_nameWithSwap : gx_St yX6_nameWithSwap mX6_nameWithSwap 3 := ⟨wC_X6_nameWithSwap, wI_X6, ⟨by decide +kernel, by decide +kernel, by decide +kernel⟩, by decide⟩
theorem wM_X6_nameWithSwap : Cond.instanceMethod yX6_nameWithSwap ∈ gx_ws := gx_in (List.mem_of_getElem? (i := 630) (by decide +kernel)) rfl
theorem wV_X6_nameWithSwap : Cond.selects RX6 yX6_nameWithSwap yX6_nameWithSwap ∈ gx_ws := gx_in (List.mem_of_getElem? (i := 20) (by decide +kernel)) rfl
theorem wC_X6_bestDoorOfCall : Cond.code yX6_bestDoorOfCall cX6_bestDoorOfCall 8 (some .int) ∈ gx_ws := gx_in (List.mem_of_getElem? (i := 602) (by decide +kernel)) rfl
theorem wS_X6_bestDoorOfCall : gx_St yX6_bestDoorOfCall mX6_bestDoorOfCall 3 := ⟨wC_X6_bestDoorOfCall, wI_X6, ⟨by decide +kernel, by decide +kernel, by decide +kernel⟩, by decide⟩
theorem wM_X6_bestDoorOfCall : Cond.instanceMethod yX6_bestDoorOfCall ∈ gx_ws := gx_in (List.mem_of_getElem? (i := 601) (by decide +kernel)) rfl
theorem wV_X6_bestDoorOfCall : Cond.selects RX6 yX6_bestDoorOfCall yX6_bestDoorOfCall ∈ gx_ws := gx_in (List.mem_of_getElem? (i := 18) (by decide +kernel)) rfl
theorem wC_X6_mostNamedPart : Cond.code yX6_mostNamedPart cX6_mostNamedPart 8 (some .int) ∈ gx_ws := gx_in (List.mem_of_getElem? (i := 651) (by decide +kernel)) rfl
theorem wS_X6_mostNamedPart : gx_St yX6_mostNamedPart mX6_mostNamedPart 4 := ⟨wC_X6_mostNamedPart, wI_X6, ⟨by decide +kernel, by decide +kernel, by decide +kernel⟩, by decide⟩
theorem wM_X6_mostNamedPart : Cond.instanceMethod yX6_mostNamedPart ∈ gx_ws := gx_in (List.mem_of_getElem? (i := 650) (by decide +kernel)) rfl
theorem wV_X6_mostNamedPart : Cond.selects RX6 yX6_mostNamedPart yX6_mostNamedPart ∈ gx_ws := gx_in (List.mem_of_getElem? (i := 21) (by decide +kernel)) rfl
theorem wC_X6_partsAsSeen : Cond.code yX6_partsAsSeen cX6_partsAsSeen 5 (some .int) ∈ gx_ws := gx_in (List.mem_of_getElem? (i := 699) (by decide +kernel)) rfl
theorem wS_X6_partsAsSeen : gx_St yX6_partsAsSeen mX6_partsAsSeen 2 := ⟨wC_X6_partsAsSeen, wI_X6, ⟨by decide +kernel, by decide +kernel, by decide +kernel⟩, by decide⟩
theorem wM_X6_partsAsSeen : Cond.instanceMethod yX6_partsAsSeen ∈ gx_ws := gx_in (List.mem_of_getElem? (i := 698) (by decide +kernel)) rfl
theorem wV_X6_partsAsSeen : Cond.selects RX6 yX6_partsAsSeen yX6_partsAsSeen ∈ gx_ws := gx_in (List.mem_of_getElem? (i := 23) (by decide +kernel)) rfl
theorem wC_X6_trialGoesAsSeen : Cond.code yX6_trialGoesAsSeen cX6_trialGoesAsSeen 3 (some .boolean) ∈ gx_ws := gx_in (List.mem_of_getElem? (i := 703) (by decide +kernel)) rfl
theorem wS_X6_trialGoesAsSeen : gx_St yX6_trialGoesAsSeen mX6_trialGoesAsSeen 0 := ⟨wC_X6_trialGoesAsSeen, wI_X6, ⟨by decide +kernel, by decide +kernel, by decide +kernel⟩, by decide⟩
theorem wM_X6_trialGoesAsSeen : Cond.instanceMethod yX6_trialGoesAsSeen ∈ gx_ws := gx_in (List.mem_of_getElem? (i := 702) (by decide +kernel)) rfl
theorem wV_X6_trialGoesAsSeen : Cond.selects RX6 yX6_trialGoesAsSeen yX6_trialGoesAsSeen ∈ gx_ws := gx_in (List.mem_of_getElem? (i := 24) (by decide +kernel)) rfl
theorem wC_X6_mostAtOneDoor : Cond.code yX6_mostAtOneDoor cX6_mostAtOneDoor 7 (some .int) ∈ gx_ws := gx_in (List.mem_of_getElem? (i := 725) (by decide +kernel)) rfl
theorem wS_X6_mostAtOneDoor : gx_St yX6_mostAtOneDoor mX6_mostAtOneDoor 2 := ⟨wC_X6_mostAtOneDoor, wI_X6, ⟨by decide +kernel, by decide +kernel, by decide +kernel⟩, by decide⟩
theorem wM_X6_mostAtOneDoor : Cond.instanceMethod yX6_mostAtOneDoor ∈ gx_ws := gx_in (List.mem_of_getElem? (i := 724) (by decide +kernel)) rfl
theorem wV_X6_mostAtOneDoor : Cond.selects RX6 yX6_mostAtOneDoor yX6_mostAtOneDoor ∈ gx_ws := gx_in (List.mem_of_getElem? (i := 25) (by decide +kernel)) rfl
theorem wC_X6_fractionByOdds : Cond.code yX6_fractionByOdds cX6_fractionByOdds 11 (some .long) ∈ gx_ws := gx_in (List.mem_of_getElem? (i := 664) (by decide +kernel)) rfl
theorem wS_X6_fractionByOdds : gx_St yX6_fractionByOdds mX6_fractionByOdds 4 := ⟨wC_X6_fractionByOdds, wI_X6, ⟨by decide +kernel, by decide +kernel, by decide +kernel⟩, by decide⟩
theorem wM_X6_fractionByOdds : Cond.instanceMethod yX6_fractionByOdds ∈ gx_ws := gx_in (List.mem_of_getElem? (i := 663) (by decide +kernel)) rfl
theorem wV_X6_fractionByOdds : Cond.selects RX6 yX6_fractionByOdds yX6_fractionByOdds ∈ gx_ws := gx_in (List.mem_of_getElem? (i := 22) (by decide +kernel)) rfl
theorem wC_X6_weighedBranches : Cond.code yX6_weighedBranches cX6_weighedBranches 9 (some .long) ∈ gx_ws := gx_in (List.mem_of_getElem? (i := 667) (by decide +kernel)) rfl
theorem wS_X6_weighedBranches : gx_St yX6_weighedBranches mX6_weighedBranches 5 := ⟨wC_X6_weighedBranches, wI_X6, ⟨by decide +kernel, by decide +kernel, by decide +kernel⟩, by decide⟩
theorem wT_X6_weighedBranches : Cond.static yX6_weighedBranches ∈ gx_ws := gx_in (List.mem_of_getElem? (i := 666) (by decide +kernel)) rfl
theorem wC_X6_commonDivisor : Cond.code yX6_commonDivisor cX6_commonDivisor 11 (some .long) ∈ gx_ws := gx_in (List.mem_of_getElem? (i := 672) (by decide +kernel)) rfl
theorem wS_X6_commonDivisor : gx_St yX6_commonDivisor mX6_commonDivisor 2 := ⟨wC_X6_commonDivisor, wI_X6, ⟨by decide +kernel, by decide +kernel, by decide +kernel⟩, by decide⟩
theorem wT_X6_commonDivisor : Cond.static yX6_commonDivisor ∈ gx_ws := gx_in (List.mem_of_getElem? (i := 671) (by decide +kernel)) rfl
theorem wC_X7_init : Cond.code yX7_init cX7_init 2 none ∈ gx_ws := gx_in (List.mem_of_getElem? (i := 802) (by decide +kernel)) rfl
theorem wS_X7_init : gx_St yX7_init mX7_init 0 := ⟨wC_X7_init, wI_X7, ⟨by decide +kernel, by decide +kernel, by decide +kernel⟩, by decide⟩
theorem wM_X7_init : Cond.instanceMethod yX7_init ∈ gx_ws := gx_in (List.mem_of_getElem? (i := 801) (by decide +kernel)) rfl
theorem wC_X7_in : Cond.code yX7_in cX7_in 6 (some .boolean) ∈ gx_ws := gx_in (List.mem_of_getElem? (i := 911) (by decide +kernel)) rfl
theorem wS_X7_in : gx_St yX7_in mX7_in 3 := ⟨wC_X7_in, wI_X7, ⟨by decide +kernel, by decide +kernel, by decide +kernel⟩, by decide⟩
theorem wT_X7_in : Cond.static yX7_in ∈ gx_ws := gx_in (List.mem_of_getElem? (i := 910) (by decide +kernel)) rfl
theorem wC_X7_flag : Cond.code yX7_flag cX7_flag 1 (some .int) ∈ gx_ws := gx_in (List.mem_of_getElem? (i := 1002) (by decide +kernel)) rfl
theorem wS_X7_flag : gx_St yX7_flag mX7_flag 1 := ⟨wC_X7_flag, wI_X7, ⟨by decide +kernel, by decide +kernel, by decide +kernel⟩, by decide⟩
theorem wT_X7_flag : Cond.static yX7_flag ∈ gx_ws := gx_in (List.mem_of_getElem? (i := 1001) (by decide +kernel)) rfl
theorem wC_X7_lesser : Cond.code yX7_lesser cX7_lesser 2 (some .int) ∈ gx_ws := gx_in (List.mem_of_getElem? (i := 1111) (by decide +kernel)) rfl
theorem wS_X7_lesser : gx_St yX7_lesser mX7_lesser 2 := ⟨wC_X7_lesser, wI_X7, ⟨by decide +kernel, by decide +kernel, by decide +kernel⟩, by decide⟩
theorem wT_X7_lesser : Cond.static yX7_lesser ∈ gx_ws := gx_in (List.mem_of_getElem? (i := 1110) (by decide +kernel)) rfl
theorem wC_X7_firstDraft : Cond.code yX7_firstDraft cX7_firstDraft 2 none ∈ gx_ws := gx_in (List.mem_of_getElem? (i := 807) (by decide +kernel)) rfl
theorem wS_X7_firstDraft : gx_St yX7_firstDraft mX7_firstDraft 0 := ⟨wC_X7_firstDraft, wI_X7, ⟨by decide +kernel, by decide +kernel, by decide +kernel⟩, by decide⟩
theorem wM_X7_firstDraft : Cond.instanceMethod yX7_firstDraft ∈ gx_ws := gx_in (List.mem_of_getElem? (i := 806) (by decide +kernel)) rfl
theorem wV_X7_firstDraft : Cond.selects RX7 yX7_firstDraft yX7_firstDraft ∈ gx_ws := gx_in (List.mem_of_getElem? (i := 27) (by decide +kernel)) rfl
theorem wC_X7_keepDraft : Cond.code yX7_keepDraft cX7_keepDraft 2 none ∈ gx_ws := gx_in (List.mem_of_getElem? (i := 811) (by decide +kernel)) rfl
theorem wS_X7_keepDraft : gx_St yX7_keepDraft mX7_keepDraft 0 := ⟨wC_X7_keepDraft, wI_X7, ⟨by decide +kernel, by decide +kernel, by decide +kernel⟩, by decide⟩
theorem wM_X7_keepDraft : Cond.instanceMethod yX7_keepDraft ∈ gx_ws := gx_in (List.mem_of_getElem? (i := 810) (by decide +kernel)) rfl
theorem wV_X7_keepDraft : Cond.selects RX7 yX7_keepDraft yX7_keepDraft ∈ gx_ws := gx_in (List.mem_of_getElem? (i := 28) (by decide +kernel)) rfl
theorem wC_X7_feed : Cond.code yX7_feed cX7_feed 2 (some .int) ∈ gx_ws := gx_in (List.mem_of_getElem? (i := 907) (by decide +kernel)) rfl
theorem wS_X7_feed : gx_St yX7_feed mX7_feed 1 := ⟨wC_X7_feed, wI_X7, ⟨by decide +kernel, by decide +kernel, by decide +kernel⟩, by decide⟩
theorem wM_X7_feed : Cond.instanceMethod yX7_feed ∈ gx_ws := gx_in (List.mem_of_getElem? (i := 905) (by decide +kernel)) rfl
theorem wV_X7_feed : Cond.selects RX7 yX7_feed yX7_feed ∈ gx_ws := gx_in (List.mem_of_getElem? (i := 906) (by decide +kernel)) rfl
theorem wC_X7_end : Cond.code yX7_end cX7_end 3 (some .int) ∈ gx_ws := gx_in (List.mem_of_getElem? (i := 915) (by decide +kernel)) rfl
theorem wS_X7_end : gx_St yX7_end mX7_end 1 := ⟨wC_X7_end, wI_X7, ⟨by decide +kernel, by decide +kernel, by decide +kernel⟩, by decide⟩
theorem wM_X7_end : Cond.instanceMethod yX7_end ∈ gx_ws := gx_in (List.mem_of_getElem? (i := 913) (by decide +kernel)) rfl
theorem wV_X7_end : Cond.selects RX7 yX7_end yX7_end ∈ gx_ws := gx_in (List.mem_of_getElem? (i := 914) (by decide +kernel)) rfl
theorem wC_X7_requires : Cond.code yX7_requires cX7_requires 3 none ∈ gx_ws := gx_in (List.mem_of_getElem? (i := 935) (by decide +kernel)) rfl
theorem wS_X7_requires : gx_St yX7_requires mX7_requires 2 := ⟨wC_X7_requires, wI_X7, ⟨by decide +kernel, by decide +kernel, by decide +kernel⟩, by decide⟩
theorem wM_X7_requires : Cond.instanceMethod yX7_requires ∈ gx_ws := gx_in (List.mem_of_getElem? (i := 934) (by decide +kernel)) rfl
theorem wV_X7_requires : Cond.selects RX7 yX7_requires yX7_requires ∈ gx_ws := gx_in (List.mem_of_getElem? (i := 31) (by decide +kernel)) rfl
theorem wC_X7_byteAt : Cond.code yX7_byteAt cX7_byteAt 2 (some .int) ∈ gx_ws := gx_in (List.mem_of_getElem? (i := 927) (by decide +kernel)) rfl
theorem wS_X7_byteAt : gx_St yX7_byteAt mX7_byteAt 1 := ⟨wC_X7_byteAt, wI_X7, ⟨by decide +kernel, by decide +kernel, by decide +kernel⟩, by decide⟩
theorem wM_X7_byteAt : Cond.instanceMethod yX7_byteAt ∈ gx_ws := gx_in (List.mem_of_getElem? (i := 926) (by decide +kernel)) rfl
theorem wV_X7_byteAt : Cond.selects RX7 yX7_byteAt yX7_byteAt ∈ gx_ws := gx_in (List.mem_of_getElem? (i := 30) (by decide +kernel)) rfl
theorem wC_X7_is : Cond.code yX7_is cX7_is 5 (some .boolean) ∈ gx_ws := gx_in (List.mem_of_getElem? (i := 947) (by decide +kernel)) rfl
theorem wS_X7_is : gx_St yX7_is mX7_is 4 := ⟨wC_X7_is, wI_X7, ⟨by decide +kernel, by decide +kernel, by decide +kernel⟩, by decide⟩
theorem wM_X7_is : Cond.instanceMethod yX7_is ∈ gx_ws := gx_in (List.mem_of_getElem? (i := 946) (by decide +kernel)) rfl
theorem wV_X7_is : Cond.selects RX7 yX7_is yX7_is ∈ gx_ws := gx_in (List.mem_of_getElem? (i := 34) (by decide +kernel)) rfl
theorem wC_X7_endsIn : Cond.code yX7_endsIn cX7_endsIn 4 (some .boolean) ∈ gx_ws := gx_in (List.mem_of_getElem? (i := 951) (by decide +kernel)) rfl
theorem wS_X7_endsIn : gx_St yX7_endsIn mX7_endsIn 3 := ⟨wC_X7_endsIn, wI_X7, ⟨by decide +kernel, by decide +kernel, by decide +kernel⟩, by decide⟩
theorem wM_X7_endsIn : Cond.instanceMethod yX7_endsIn ∈ gx_ws := gx_in (List.mem_of_getElem? (i := 950) (by decide +kernel)) rfl
theorem wV_X7_endsIn : Cond.selects RX7 yX7_endsIn yX7_endsIn ∈ gx_ws := gx_in (List.mem_of_getElem? (i := 35) (by decide +kernel)) rfl
theorem wC_X7_lineNow : Cond.code yX7_lineNow cX7_lineNow 1 (some .int) ∈ gx_ws := gx_in (List.mem_of_getElem? (i := 943) (by decide +kernel)) rfl
theorem wS_X7_lineNow : gx_St yX7_lineNow mX7_lineNow 0 := ⟨wC_X7_lineNow, wI_X7, ⟨by decide +kernel, by decide +kernel, by decide +kernel⟩, by decide⟩
theorem wM_X7_lineNow : Cond.instanceMethod yX7_lineNow ∈ gx_ws := gx_in (List.mem_of_getElem? (i := 942) (by decide +kernel)) rfl
theorem wV_X7_lineNow : Cond.selects RX7 yX7_lineNow yX7_lineNow ∈ gx_ws := gx_in (List.mem_of_getElem? (i := 33) (by decide +kernel)) rfl
theorem wC_X7_reads : Cond.code yX7_reads cX7_reads 2 none ∈ gx_ws := gx_in (List.mem_of_getElem? (i := 923) (by decide +kernel)) rfl
theorem wS_X7_reads : gx_St yX7_reads mX7_reads 0 := ⟨wC_X7_reads, wI_X7, ⟨by decide +kernel, by decide +kernel, by decide +kernel⟩, by decide⟩
theorem wM_X7_reads : Cond.instanceMethod yX7_reads ∈ gx_ws := gx_in (List.mem_of_getElem? (i := 922) (by decide +kernel)) rfl
theorem wV_X7_reads : Cond.selects RX7 yX7_reads yX7_reads ∈ gx_ws := gx_in (List.mem_of_getElem? (i := 29) (by decide +kernel)) rfl
theorem wC_X7_looked : Cond.code yX7_looked cX7_looked 3 (some .int) ∈ gx_ws := gx_in (List.mem_of_getElem? (i := 971) (by decide +kernel)) rfl
theorem wS_X7_looked : gx_St yX7_looked mX7_looked 2 := ⟨wC_X7_looked, wI_X7, ⟨by decide +kernel, by decide +kernel, by decide +kernel⟩, by decide⟩
theorem wM_X7_looked : Cond.instanceMethod yX7_looked ∈ gx_ws := gx_in (List.mem_of_getElem? (i := 970) (by decide +kernel)) rfl
theorem wV_X7_looked : Cond.selects RX7 yX7_looked yX7_looked ∈ gx_ws := gx_in (List.mem_of_getElem? (i := 40) (by decide +kernel)) rfl
theorem wC_X7_readNumber : Cond.code yX7_readNumber cX7_readNumber 4 (some .int) ∈ gx_ws := gx_in (List.mem_of_getElem? (i := 967) (by decide +kernel)) rfl
theorem wS_X7_readNumber : gx_St yX7_readNumber mX7_readNumber 2 := ⟨wC_X7_readNumber, wI_X7, ⟨by decide +kernel, by decide +kernel, by decide +kernel⟩, by decide⟩
theorem wM_X7_readNumber : Cond.instanceMethod yX7_readNumber ∈ gx_ws := gx_in (List.mem_of_getElem? (i := 966) (by decide +kernel)) rfl
theorem wV_X7_readNumber : Cond.selects RX7 yX7_readNumber yX7_readNumber ∈ gx_ws := gx_in (List.mem_of_getElem? (i := 39) (by decide +kernel)) rfl
theorem wC_X7_readFames : Cond.code yX7_readFames cX7_readFames 1 none ∈ gx_ws := gx_in (List.mem_of_getElem? (i := 963) (by decide +kernel)) rfl
theorem wS_X7_readFames : gx_St yX7_readFames mX7_readFames 0 := ⟨wC_X7_readFames, wI_X7, ⟨by decide +kernel, by decide +kernel, by decide +kernel⟩, by decide⟩
theorem wM_X7_readFames : Cond.instanceMethod yX7_readFames ∈ gx_ws := gx_in (List.mem_of_getElem? (i := 962) (by decide +kernel)) rfl
theorem wV_X7_readFames : Cond.selects RX7 yX7_readFames yX7_readFames ∈ gx_ws := gx_in (List.mem_of_getElem? (i := 38) (by decide +kernel)) rfl
theorem wC_X7_readRoute : Cond.code yX7_readRoute cX7_readRoute 1 none ∈ gx_ws := gx_in (List.mem_of_getElem? (i := 975) (by decide +kernel)) rfl
theorem wS_X7_readRoute : gx_St yX7_readRoute mX7_readRoute 0 := ⟨wC_X7_readRoute, wI_X7, ⟨by decide +kernel, by decide +kernel, by decide +kernel⟩, by decide⟩
theorem wM_X7_readRoute : Cond.instanceMethod yX7_readRoute ∈ gx_ws := gx_in (List.mem_of_getElem? (i := 974) (by decide +kernel)) rfl
theorem wV_X7_readRoute : Cond.selects RX7 yX7_readRoute yX7_readRoute ∈ gx_ws := gx_in (List.mem_of_getElem? (i := 41) (by decide +kernel)) rfl
theorem wC_X7_readLineOf : Cond.code yX7_readLineOf cX7_readLineOf 2 none ∈ gx_ws := gx_in (List.mem_of_getElem? (i := 959) (by decide +kernel)) rfl
theorem wS_X7_readLineOf : gx_St yX7_readLineOf mX7_readLineOf 1 := ⟨wC_X7_readLineOf, wI_X7, ⟨by decide +kernel, by decide +kernel, by decide +kernel⟩, by decide⟩
theorem wM_X7_readLineOf : Cond.instanceMethod yX7_readLineOf ∈ gx_ws := gx_in (List.mem_of_getElem? (i := 958) (by decide +kernel)) rfl
theorem wV_X7_readLineOf : Cond.selects RX7 yX7_readLineOf yX7_readLineOf ∈ gx_ws := gx_in (List.mem_of_getElem? (i := 37) (by decide +kernel)) rfl
theorem wC_X7_wasTold : Cond.code yX7_wasTold cX7_wasTold 2 (some .boolean) ∈ gx_ws := gx_in (List.mem_of_getElem? (i := 955) (by decide +kernel)) rfl
theorem wS_X7_wasTold : gx_St yX7_wasTold mX7_wasTold 1 := ⟨wC_X7_wasTold, wI_X7, ⟨by decide +kernel, by decide +kernel, by decide +kernel⟩, by decide⟩
theorem wM_X7_wasTold : Cond.instanceMethod yX7_wasTold ∈ gx_ws := gx_in (List.mem_of_getElem? (i := 954) (by decide +kernel)) rfl
theorem wV_X7_wasTold : Cond.selects RX7 yX7_wasTold yX7_wasTold ∈ gx_ws := gx_in (List.mem_of_getElem? (i := 36) (by decide +kernel)) rfl
theorem wC_X7_readLine : Cond.code yX7_readLine cX7_readLine 2 none ∈ gx_ws := gx_in (List.mem_of_getElem? (i := 939) (by decide +kernel)) rfl
theorem wS_X7_readLine : gx_St yX7_readLine mX7_readLine 0 := ⟨wC_X7_readLine, wI_X7, ⟨by decide +kernel, by decide +kernel, by decide +kernel⟩, by decide⟩
theorem wM_X7_readLine : Cond.instanceMethod yX7_readLine ∈ gx_ws := gx_in (List.mem_of_getElem? (i := 938) (by decide +kernel)) rfl
theorem wV_X7_readLine : Cond.selects RX7 yX7_readLine yX7_readLine ∈ gx_ws := gx_in (List.mem_of_getElem? (i := 32) (by decide +kernel)) rfl
theorem wC_X7_text : Cond.code yX7_text cX7_text 2 (some .int) ∈ gx_ws := gx_in (List.mem_of_getElem? (i := 919) (by decide +kernel)) rfl
theorem wS_X7_text : gx_St yX7_text mX7_text 0 := ⟨wC_X7_text, wI_X7, ⟨by decide +kernel, by decide +kernel, by decide +kernel⟩, by decide⟩
theorem wM_X7_text : Cond.instanceMethod yX7_text ∈ gx_ws := gx_in (List.mem_of_getElem? (i := 917) (by decide +kernel)) rfl
theorem wV_X7_text : Cond.selects RX7 yX7_text yX7_text ∈ gx_ws := gx_in (List.mem_of_getElem? (i := 918) (by decide +kernel)) rfl
theorem wC_X7_fault : Cond.code yX7_fault cX7_fault 1 (some .int) ∈ gx_ws := gx_in (List.mem_of_getElem? (i := 979) (by decide +kernel)) rfl
theorem wS_X7_fault : gx_St yX7_fault mX7_fault 0 := ⟨wC_X7_fault, wI_X7, ⟨by decide +kernel, by decide +kernel, by decide +kernel⟩, by decide⟩
theorem wM_X7_fault : Cond.instanceMethod yX7_fault ∈ gx_ws := gx_in (List.mem_of_getElem? (i := 977) (by decide +kernel)) rfl
theorem wV_X7_fault : Cond.selects RX7 yX7_fault yX7_fault ∈ gx_ws := gx_in (List.mem_of_getElem? (i := 978) (by decide +kernel)) rfl
theorem wC_X7_isGlove : Cond.code yX7_isGlove cX7_isGlove 2 (some .boolean) ∈ gx_ws := gx_in (List.mem_of_getElem? (i := 1018) (by decide +kernel)) rfl
theorem wS_X7_isGlove : gx_St yX7_isGlove mX7_isGlove 1 := ⟨wC_X7_isGlove, wI_X7, ⟨by decide +kernel, by decide +kernel, by decide +kernel⟩, by decide⟩
theorem wM_X7_isGlove : Cond.instanceMethod yX7_isGlove ∈ gx_ws := gx_in (List.mem_of_getElem? (i := 1017) (by decide +kernel)) rfl
theorem wV_X7_isGlove : Cond.selects RX7 yX7_isGlove yX7_isGlove ∈ gx_ws := gx_in (List.mem_of_getElem? (i := 48) (by decide +kernel)) rfl
theorem wC_X7_isDoor : Cond.code yX7_isDoor cX7_isDoor 1 (some .boolean) ∈ gx_ws := gx_in (List.mem_of_getElem? (i := 1036) (by decide +kernel)) rfl
theorem wS_X7_isDoor : gx_St yX7_isDoor mX7_isDoor 1 := ⟨wC_X7_isDoor, wI_X7, ⟨by decide +kernel, by decide +kernel, by decide +kernel⟩, by decide⟩
theorem wT_X7_isDoor : Cond.static yX7_isDoor ∈ gx_ws := gx_in (List.mem_of_getElem? (i := 1035) (by decide +kernel)) rfl
theorem wC_X7_isCall : Cond.code yX7_isCall cX7_isCall 2 (some .boolean) ∈ gx_ws := gx_in (List.mem_of_getElem? (i := 1048) (by decide +kernel)) rfl
theorem wS_X7_isCall : gx_St yX7_isCall mX7_isCall 1 := ⟨wC_X7_isCall, wI_X7, ⟨by decide +kernel, by decide +kernel, by decide +kernel⟩, by decide⟩
theorem wM_X7_isCall : Cond.instanceMethod yX7_isCall ∈ gx_ws := gx_in (List.mem_of_getElem? (i := 1047) (by decide +kernel)) rfl
theorem wV_X7_isCall : Cond.selects RX7 yX7_isCall yX7_isCall ∈ gx_ws := gx_in (List.mem_of_getElem? (i := 51) (by decide +kernel)) rfl
theorem wC_X7_isPart : Cond.code yX7_isPart cX7_isPart 1 (some .boolean) ∈ gx_ws := gx_in (List.mem_of_getElem? (i := 1040) (by decide +kernel)) rfl
theorem wS_X7_isPart : gx_St yX7_isPart mX7_isPart 1 := ⟨wC_X7_isPart, wI_X7, ⟨by decide +kernel, by decide +kernel, by decide +kernel⟩, by decide⟩
theorem wT_X7_isPart : Cond.static yX7_isPart ∈ gx_ws := gx_in (List.mem_of_getElem? (i := 1039) (by decide +kernel)) rfl
theorem wC_X7_starts : Cond.code yX7_starts cX7_starts 2 none ∈ gx_ws := gx_in (List.mem_of_getElem? (i := 987) (by decide +kernel)) rfl
theorem wS_X7_starts : gx_St yX7_starts mX7_starts 0 := ⟨wC_X7_starts, wI_X7, ⟨by decide +kernel, by decide +kernel, by decide +kernel⟩, by decide⟩
theorem wM_X7_starts : Cond.instanceMethod yX7_starts ∈ gx_ws := gx_in (List.mem_of_getElem? (i := 986) (by decide +kernel)) rfl
theorem wV_X7_starts : Cond.selects RX7 yX7_starts yX7_starts ∈ gx_ws := gx_in (List.mem_of_getElem? (i := 42) (by decide +kernel)) rfl
theorem wC_X7_settles : Cond.code yX7_settles cX7_settles 2 none ∈ gx_ws := gx_in (List.mem_of_getElem? (i := 1123) (by decide +kernel)) rfl
theorem wS_X7_settles : gx_St yX7_settles mX7_settles 0 := ⟨wC_X7_settles, wI_X7, ⟨by decide +kernel, by decide +kernel, by decide +kernel⟩, by decide⟩
theorem wM_X7_settles : Cond.instanceMethod yX7_settles ∈ gx_ws := gx_in (List.mem_of_getElem? (i := 1122) (by decide +kernel)) rfl
theorem wV_X7_settles : Cond.selects RX7 yX7_settles yX7_settles ∈ gx_ws := gx_in (List.mem_of_getElem? (i := 61) (by decide +kernel)) rfl
theorem wC_X7_of : Cond.code yX7_of cX7_of 3 (some .int) ∈ gx_ws := gx_in (List.mem_of_getElem? (i := 999) (by decide +kernel)) rfl
theorem wS_X7_of : gx_St yX7_of mX7_of 2 := ⟨wC_X7_of, wI_X7, ⟨by decide +kernel, by decide +kernel, by decide +kernel⟩, by decide⟩
theorem wM_X7_of : Cond.instanceMethod yX7_of ∈ gx_ws := gx_in (List.mem_of_getElem? (i := 998) (by decide +kernel)) rfl
theorem wV_X7_of : Cond.selects RX7 yX7_of yX7_of ∈ gx_ws := gx_in (List.mem_of_getElem? (i := 45) (by decide +kernel)) rfl
theorem wC_X7_becomesOf : Cond.code yX7_becomesOf cX7_becomesOf 4 none ∈ gx_ws := gx_in (List.mem_of_getElem? (i := 1115) (by decide +kernel)) rfl
theorem wS_X7_becomesOf : gx_St yX7_becomesOf mX7_becomesOf 3 := ⟨wC_X7_becomesOf, wI_X7, ⟨by decide +kernel, by decide +kernel, by decide +kernel⟩, by decide⟩
theorem wM_X7_becomesOf : Cond.instanceMethod yX7_becomesOf ∈ gx_ws := gx_in (List.mem_of_getElem? (i := 1114) (by decide +kernel)) rfl
theorem wV_X7_becomesOf : Cond.selects RX7 yX7_becomesOf yX7_becomesOf ∈ gx_ws := gx_in (List.mem_of_getElem? (i := 59) (by decide +kernel)) rfl
theorem wC_X7_isPaired : Cond.code yX7_isPaired cX7_isPaired 2 (some .boolean) ∈ gx_ws := gx_in (List.mem_of_getElem? (i := 995) (by decide +kernel)) rfl
theorem wS_X7_isPaired : gx_St yX7_isPaired mX7_isPaired 1 := ⟨wC_X7_isPaired, wI_X7, ⟨by decide +kernel, by decide +kernel, by decide +kernel⟩, by decide⟩
theorem wM_X7_isPaired : Cond.instanceMethod yX7_isPaired ∈ gx_ws := gx_in (List.mem_of_getElem? (i := 994) (by decide +kernel)) rfl
theorem wV_X7_isPaired : Cond.selects RX7 yX7_isPaired yX7_isPaired ∈ gx_ws := gx_in (List.mem_of_getElem? (i := 44) (by decide +kernel)) rfl
theorem wC_X7_isCold : Cond.code yX7_isCold cX7_isCold 2 (some .boolean) ∈ gx_ws := gx_in (List.mem_of_getElem? (i := 1010) (by decide +kernel)) rfl
theorem wS_X7_isCold : gx_St yX7_isCold mX7_isCold 1 := ⟨wC_X7_isCold, wI_X7, ⟨by decide +kernel, by decide +kernel, by decide +kernel⟩, by decide⟩
theorem wM_X7_isCold : Cond.instanceMethod yX7_isCold ∈ gx_ws := gx_in (List.mem_of_getElem? (i := 1009) (by decide +kernel)) rfl
theorem wV_X7_isCold : Cond.selects RX7 yX7_isCold yX7_isCold ∈ gx_ws := gx_in (List.mem_of_getElem? (i := 47) (by decide +kernel)) rfl
theorem wC_X7_doorOf : Cond.code yX7_doorOf cX7_doorOf 2 (some .int) ∈ gx_ws := gx_in (List.mem_of_getElem? (i := 1022) (by decide +kernel)) rfl
theorem wS_X7_doorOf : gx_St yX7_doorOf mX7_doorOf 1 := ⟨wC_X7_doorOf, wI_X7, ⟨by decide +kernel, by decide +kernel, by decide +kernel⟩, by decide⟩
theorem wM_X7_doorOf : Cond.instanceMethod yX7_doorOf ∈ gx_ws := gx_in (List.mem_of_getElem? (i := 1021) (by decide +kernel)) rfl
theorem wV_X7_doorOf : Cond.selects RX7 yX7_doorOf yX7_doorOf ∈ gx_ws := gx_in (List.mem_of_getElem? (i := 49) (by decide +kernel)) rfl
theorem wC_X7_apart : Cond.code yX7_apart cX7_apart 3 (some .int) ∈ gx_ws := gx_in (List.mem_of_getElem? (i := 1025) (by decide +kernel)) rfl
theorem wS_X7_apart : gx_St yX7_apart mX7_apart 2 := ⟨wC_X7_apart, wI_X7, ⟨by decide +kernel, by decide +kernel, by decide +kernel⟩, by decide⟩
theorem wT_X7_apart : Cond.static yX7_apart ∈ gx_ws := gx_in (List.mem_of_getElem? (i := 1024) (by decide +kernel)) rfl
theorem wC_X7_stepOf : Cond.code yX7_stepOf cX7_stepOf 6 (some .int) ∈ gx_ws := gx_in (List.mem_of_getElem? (i := 1029) (by decide +kernel)) rfl
theorem wS_X7_stepOf : gx_St yX7_stepOf mX7_stepOf 1 := ⟨wC_X7_stepOf, wI_X7, ⟨by decide +kernel, by decide +kernel, by decide +kernel⟩, by decide⟩
theorem wM_X7_stepOf : Cond.instanceMethod yX7_stepOf ∈ gx_ws := gx_in (List.mem_of_getElem? (i := 1028) (by decide +kernel)) rfl
theorem wV_X7_stepOf : Cond.selects RX7 yX7_stepOf yX7_stepOf ∈ gx_ws := gx_in (List.mem_of_getElem? (i := 50) (by decide +kernel)) rfl
theorem wC_X7_gloveGoes : Cond.code yX7_gloveGoes cX7_gloveGoes 3 none ∈ gx_ws := gx_in (List.mem_of_getElem? (i := 1108) (by decide +kernel)) rfl
theorem wS_X7_gloveGoes : gx_St yX7_gloveGoes mX7_gloveGoes 1 := ⟨wC_X7_gloveGoes, wI_X7, ⟨by decide +kernel, by decide +kernel, by decide +kernel⟩, by decide⟩
theorem wM_X7_gloveGoes : Cond.instanceMethod yX7_gloveGoes ∈ gx_ws := gx_in (List.mem_of_getElem? (i := 1107) (by decide +kernel)) rfl
theorem wV_X7_gloveGoes : Cond.selects RX7 yX7_gloveGoes yX7_gloveGoes ∈ gx_ws := gx_in (List.mem_of_getElem? (i := 58) (by decide +kernel)) rfl
theorem wC_X7_dayGoesAt : Cond.code yX7_dayGoesAt cX7_dayGoesAt 3 none ∈ gx_ws := gx_in (List.mem_of_getElem? (i := 1104) (by decide +kernel)) rfl
theorem wS_X7_dayGoesAt : gx_St yX7_dayGoesAt mX7_dayGoesAt 1 := ⟨wC_X7_dayGoesAt, wI_X7, ⟨by decide +kernel, by decide +kernel, by decide +kernel⟩, by decide⟩
theorem wM_X7_dayGoesAt : Cond.instanceMethod yX7_dayGoesAt ∈ gx_ws := gx_in (List.mem_of_getElem? (i := 1103) (by decide +kernel)) rfl
theorem wV_X7_dayGoesAt : Cond.selects RX7 yX7_dayGoesAt yX7_dayGoesAt ∈ gx_ws := gx_in (List.mem_of_getElem? (i := 57) (by decide +kernel)) rfl
theorem wC_X7_nextDoor : Cond.code yX7_nextDoor cX7_nextDoor 1 (some .int) ∈ gx_ws := gx_in (List.mem_of_getElem? (i := 1100) (by decide +kernel)) rfl
theorem wS_X7_nextDoor : gx_St yX7_nextDoor mX7_nextDoor 0 := ⟨wC_X7_nextDoor, wI_X7, ⟨by decide +kernel, by decide +kernel, by decide +kernel⟩, by decide⟩
theorem wM_X7_nextDoor : Cond.instanceMethod yX7_nextDoor ∈ gx_ws := gx_in (List.mem_of_getElem? (i := 1099) (by decide +kernel)) rfl
theorem wV_X7_nextDoor : Cond.selects RX7 yX7_nextDoor yX7_nextDoor ∈ gx_ws := gx_in (List.mem_of_getElem? (i := 56) (by decide +kernel)) rfl
theorem wC_X7_daysGo : Cond.code yX7_daysGo cX7_daysGo 3 none ∈ gx_ws := gx_in (List.mem_of_getElem? (i := 1096) (by decide +kernel)) rfl
theorem wS_X7_daysGo : gx_St yX7_daysGo mX7_daysGo 1 := ⟨wC_X7_daysGo, wI_X7, ⟨by decide +kernel, by decide +kernel, by decide +kernel⟩, by decide⟩
theorem wM_X7_daysGo : Cond.instanceMethod yX7_daysGo ∈ gx_ws := gx_in (List.mem_of_getElem? (i := 1095) (by decide +kernel)) rfl
theorem wV_X7_daysGo : Cond.selects RX7 yX7_daysGo yX7_daysGo ∈ gx_ws := gx_in (List.mem_of_getElem? (i := 55) (by decide +kernel)) rfl
theorem wC_X7_nameMore : Cond.code yX7_nameMore cX7_nameMore 1 (some .int) ∈ gx_ws := gx_in (List.mem_of_getElem? (i := 1119) (by decide +kernel)) rfl
theorem wS_X7_nameMore : gx_St yX7_nameMore mX7_nameMore 0 := ⟨wC_X7_nameMore, wI_X7, ⟨by decide +kernel, by decide +kernel, by decide +kernel⟩, by decide⟩
theorem wM_X7_nameMore : Cond.instanceMethod yX7_nameMore ∈ gx_ws := gx_in (List.mem_of_getElem? (i := 1118) (by decide +kernel)) rfl
theorem wV_X7_nameMore : Cond.selects RX7 yX7_nameMore yX7_nameMore ∈ gx_ws := gx_in (List.mem_of_getElem? (i := 60) (by decide +kernel)) rfl
theorem wC_X7_nameBehind : Cond.code yX7_nameBehind cX7_nameBehind 2 (some .int) ∈ gx_ws := gx_in (List.mem_of_getElem? (i := 1092) (by decide +kernel)) rfl
theorem wS_X7_nameBehind : gx_St yX7_nameBehind mX7_nameBehind 1 := ⟨wC_X7_nameBehind, wI_X7, ⟨by decide +kernel, by decide +kernel, by decide +kernel⟩, by decide⟩
theorem wM_X7_nameBehind : Cond.instanceMethod yX7_nameBehind ∈ gx_ws := gx_in (List.mem_of_getElem? (i := 1091) (by decide +kernel)) rfl
theorem wV_X7_nameBehind : Cond.selects RX7 yX7_nameBehind yX7_nameBehind ∈ gx_ws := gx_in (List.mem_of_getElem? (i := 54) (by decide +kernel)) rfl
theorem wC_X7_pairedNow : Cond.code yX7_pairedNow cX7_pairedNow 3 (some .int) ∈ gx_ws := gx_in (List.mem_of_getElem? (i := 991) (by decide +kernel)) rfl
theorem wS_X7_pairedNow : gx_St yX7_pairedNow mX7_pairedNow 0 := ⟨wC_X7_pairedNow, wI_X7, ⟨by decide +kernel, by decide +kernel, by decide +kernel⟩, by decide⟩
theorem wM_X7_pairedNow : Cond.instanceMethod yX7_pairedNow ∈ gx_ws := gx_in (List.mem_of_getElem? (i := 990) (by decide +kernel)) rfl
theorem wV_X7_pairedNow : Cond.selects RX7 yX7_pairedNow yX7_pairedNow ∈ gx_ws := gx_in (List.mem_of_getElem? (i := 43) (by decide +kernel)) rfl
theorem wC_X7_coldNow : Cond.code yX7_coldNow cX7_coldNow 3 (some .int) ∈ gx_ws := gx_in (List.mem_of_getElem? (i := 1006) (by decide +kernel)) rfl
theorem wS_X7_coldNow : gx_St yX7_coldNow mX7_coldNow 0 := ⟨wC_X7_coldNow, wI_X7, ⟨by decide +kernel, by decide +kernel, by decide +kernel⟩, by decide⟩
theorem wM_X7_coldNow : Cond.instanceMethod yX7_coldNow ∈ gx_ws := gx_in (List.mem_of_getElem? (i := 1005) (by decide +kernel)) rfl
theorem wV_X7_coldNow : Cond.selects RX7 yX7_coldNow yX7_coldNow ∈ gx_ws := gx_in (List.mem_of_getElem? (i := 46) (by decide +kernel)) rfl
theorem wC_X7_metMany : Cond.code yX7_metMany cX7_metMany 3 (some .int) ∈ gx_ws := gx_in (List.mem_of_getElem? (i := 1156) (by decide +kernel)) rfl
theorem wS_X7_metMany : gx_St yX7_metMany mX7_metMany 0 := ⟨wC_X7_metMany, wI_X7, ⟨by decide +kernel, by decide +kernel, by decide +kernel⟩, by decide⟩
theorem wM_X7_metMany : Cond.instanceMethod yX7_metMany ∈ gx_ws := gx_in (List.mem_of_getElem? (i := 1155) (by decide +kernel)) rfl
theorem wV_X7_metMany : Cond.selects RX7 yX7_metMany yX7_metMany ∈ gx_ws := gx_in (List.mem_of_getElem? (i := 64) (by decide +kernel)) rfl
theorem wC_X7_metBehind : Cond.code yX7_metBehind cX7_metBehind 2 (some .int) ∈ gx_ws := gx_in (List.mem_of_getElem? (i := 1152) (by decide +kernel)) rfl
theorem wS_X7_metBehind : gx_St yX7_metBehind mX7_metBehind 1 := ⟨wC_X7_metBehind, wI_X7, ⟨by decide +kernel, by decide +kernel, by decide +kernel⟩, by decide⟩
theorem wM_X7_metBehind : Cond.instanceMethod yX7_metBehind ∈ gx_ws := gx_in (List.mem_of_getElem? (i := 1151) (by decide +kernel)) rfl
theorem wV_X7_metBehind : Cond.selects RX7 yX7_metBehind yX7_metBehind ∈ gx_ws := gx_in (List.mem_of_getElem? (i := 63) (by decide +kernel)) rfl
theorem wC_X7_rule : Cond.code yX7_rule cX7_rule 2 (some .int) ∈ gx_ws := gx_in (List.mem_of_getElem? (i := 983) (by decide +kernel)) rfl
theorem wS_X7_rule : gx_St yX7_rule mX7_rule 1 := ⟨wC_X7_rule, wI_X7, ⟨by decide +kernel, by decide +kernel, by decide +kernel⟩, by decide⟩
theorem wM_X7_rule : Cond.instanceMethod yX7_rule ∈ gx_ws := gx_in (List.mem_of_getElem? (i := 981) (by decide +kernel)) rfl
theorem wV_X7_rule : Cond.selects RX7 yX7_rule yX7_rule ∈ gx_ws := gx_in (List.mem_of_getElem? (i := 982) (by decide +kernel)) rfl
theorem wC_X7_glove : Cond.code yX7_glove cX7_glove 3 (some .int) ∈ gx_ws := gx_in (List.mem_of_getElem? (i := 1014) (by decide +kernel)) rfl
theorem wS_X7_glove : gx_St yX7_glove mX7_glove 2 := ⟨wC_X7_glove, wI_X7, ⟨by decide +kernel, by decide +kernel, by decide +kernel⟩, by decide⟩
theorem wM_X7_glove : Cond.instanceMethod yX7_glove ∈ gx_ws := gx_in (List.mem_of_getElem? (i := 1012) (by decide +kernel)) rfl
theorem wV_X7_glove : Cond.selects RX7 yX7_glove yX7_glove ∈ gx_ws := gx_in (List.mem_of_getElem? (i := 1013) (by decide +kernel)) rfl
theorem wC_X7_door : Cond.code yX7_door cX7_door 5 (some .int) ∈ gx_ws := gx_in (List.mem_of_getElem? (i := 1033) (by decide +kernel)) rfl
theorem wS_X7_door : gx_St yX7_door mX7_door 2 := ⟨wC_X7_door, wI_X7, ⟨by decide +kernel, by decide +kernel, by decide +kernel⟩, by decide⟩
theorem wM_X7_door : Cond.instanceMethod yX7_door ∈ gx_ws := gx_in (List.mem_of_getElem? (i := 1031) (by decide +kernel)) rfl
theorem wV_X7_door : Cond.selects RX7 yX7_door yX7_door ∈ gx_ws := gx_in (List.mem_of_getElem? (i := 1032) (by decide +kernel)) rfl
theorem wC_X7_stop : Cond.code yX7_stop cX7_stop 2 (some .int) ∈ gx_ws := gx_in (List.mem_of_getElem? (i := 1044) (by decide +kernel)) rfl
theorem wS_X7_stop : gx_St yX7_stop mX7_stop 1 := ⟨wC_X7_stop, wI_X7, ⟨by decide +kernel, by decide +kernel, by decide +kernel⟩, by decide⟩
theorem wM_X7_stop : Cond.instanceMethod yX7_stop ∈ gx_ws := gx_in (List.mem_of_getElem? (i := 1042) (by decide +kernel)) rfl
theorem wV_X7_stop : Cond.selects RX7 yX7_stop yX7_stop ∈ gx_ws := gx_in (List.mem_of_getElem? (i := 1043) (by decide +kernel)) rfl
theorem wC_X7_becomes : Cond.code yX7_becomes cX7_becomes 4 (some .int) ∈ gx_ws := gx_in (List.mem_of_getElem? (i := 1062) (by decide +kernel)) rfl
theorem wS_X7_becomes : gx_St yX7_becomes mX7_becomes 2 := ⟨wC_X7_becomes, wI_X7, ⟨by decide +kernel, by decide +kernel, by decide +kernel⟩, by decide⟩
theorem wM_X7_becomes : Cond.instanceMethod yX7_becomes ∈ gx_ws := gx_in (List.mem_of_getElem? (i := 1061) (by decide +kernel)) rfl
theorem wV_X7_becomes : Cond.selects RX7 yX7_becomes yX7_becomes ∈ gx_ws := gx_in (List.mem_of_getElem? (i := 53) (by decide +kernel)) rfl
theorem wC_X7_wasPaired : Cond.code yX7_wasPaired cX7_wasPaired 2 (some .boolean) ∈ gx_ws := gx_in (List.mem_of_getElem? (i := 1058) (by decide +kernel)) rfl
theorem wS_X7_wasPaired : gx_St yX7_wasPaired mX7_wasPaired 1 := ⟨wC_X7_wasPaired, wI_X7, ⟨by decide +kernel, by decide +kernel, by decide +kernel⟩, by decide⟩
theorem wM_X7_wasPaired : Cond.instanceMethod yX7_wasPaired ∈ gx_ws := gx_in (List.mem_of_getElem? (i := 1057) (by decide +kernel)) rfl
theorem wV_X7_wasPaired : Cond.selects RX7 yX7_wasPaired yX7_wasPaired ∈ gx_ws := gx_in (List.mem_of_getElem? (i := 52) (by decide +kernel)) rfl
theorem wC_X7_alter : Cond.code yX7_alter cX7_alter 5 (some .int) ∈ gx_ws := gx_in (List.mem_of_getElem? (i := 1052) (by decide +kernel)) rfl
theorem wS_X7_alter : gx_St yX7_alter mX7_alter 3 := ⟨wC_X7_alter, wI_X7, ⟨by decide +kernel, by decide +kernel, by decide +kernel⟩, by decide⟩
theorem wM_X7_alter : Cond.instanceMethod yX7_alter ∈ gx_ws := gx_in (List.mem_of_getElem? (i := 1050) (by decide +kernel)) rfl
theorem wV_X7_alter : Cond.selects RX7 yX7_alter yX7_alter ∈ gx_ws := gx_in (List.mem_of_getElem? (i := 1051) (by decide +kernel)) rfl
theorem wC_X7_fame : Cond.code yX7_fame cX7_fame 3 (some .int) ∈ gx_ws := gx_in (List.mem_of_getElem? (i := 1066) (by decide +kernel)) rfl
theorem wS_X7_fame : gx_St yX7_fame mX7_fame 2 := ⟨wC_X7_fame, wI_X7, ⟨by decide +kernel, by decide +kernel, by decide +kernel⟩, by decide⟩
theorem wM_X7_fame : Cond.instanceMethod yX7_fame ∈ gx_ws := gx_in (List.mem_of_getElem? (i := 1064) (by decide +kernel)) rfl
theorem wV_X7_fame : Cond.selects RX7 yX7_fame yX7_fame ∈ gx_ws := gx_in (List.mem_of_getElem? (i := 1065) (by decide +kernel)) rfl
theorem wC_X7_leave : Cond.code yX7_leave cX7_leave 2 (some .int) ∈ gx_ws := gx_in (List.mem_of_getElem? (i := 1071) (by decide +kernel)) rfl
theorem wS_X7_leave : gx_St yX7_leave mX7_leave 1 := ⟨wC_X7_leave, wI_X7, ⟨by decide +kernel, by decide +kernel, by decide +kernel⟩, by decide⟩
theorem wM_X7_leave : Cond.instanceMethod yX7_leave ∈ gx_ws := gx_in (List.mem_of_getElem? (i := 1069) (by decide +kernel)) rfl
theorem wV_X7_leave : Cond.selects RX7 yX7_leave yX7_leave ∈ gx_ws := gx_in (List.mem_of_getElem? (i := 1070) (by decide +kernel)) rfl
theorem wC_X7_go : Cond.code yX7_go cX7_go 2 (some .int) ∈ gx_ws := gx_in (List.mem_of_getElem? (i := 1075) (by decide +kernel)) rfl
theorem wS_X7_go : gx_St yX7_go mX7_go 1 := ⟨wC_X7_go, wI_X7, ⟨by decide +kernel, by decide +kernel, by decide +kernel⟩, by decide⟩
theorem wM_X7_go : Cond.instanceMethod yX7_go ∈ gx_ws := gx_in (List.mem_of_getElem? (i := 1073) (by decide +kernel)) rfl
theorem wV_X7_go : Cond.selects RX7 yX7_go yX7_go ∈ gx_ws := gx_in (List.mem_of_getElem? (i := 1074) (by decide +kernel)) rfl
theorem wC_X7_call : Cond.code yX7_call cX7_call 2 (some .int) ∈ gx_ws := gx_in (List.mem_of_getElem? (i := 1079) (by decide +kernel)) rfl
theorem wS_X7_call : gx_St yX7_call mX7_call 1 := ⟨wC_X7_call, wI_X7, ⟨by decide +kernel, by decide +kernel, by decide +kernel⟩, by decide⟩
theorem wM_X7_call : Cond.instanceMethod yX7_call ∈ gx_ws := gx_in (List.mem_of_getElem? (i := 1077) (by decide +kernel)) rfl
theorem wV_X7_call : Cond.selects RX7 yX7_call yX7_call ∈ gx_ws := gx_in (List.mem_of_getElem? (i := 1078) (by decide +kernel)) rfl
theorem wC_X7_cut : Cond.code yX7_cut cX7_cut 2 (some .int) ∈ gx_ws := gx_in (List.mem_of_getElem? (i := 1083) (by decide +kernel)) rfl
theorem wS_X7_cut : gx_St yX7_cut mX7_cut 1 := ⟨wC_X7_cut, wI_X7, ⟨by decide +kernel, by decide +kernel, by decide +kernel⟩, by decide⟩
theorem wM_X7_cut : Cond.instanceMethod yX7_cut ∈ gx_ws := gx_in (List.mem_of_getElem? (i := 1081) (by decide +kernel)) rfl
theorem wV_X7_cut : Cond.selects RX7 yX7_cut yX7_cut ∈ gx_ws := gx_in (List.mem_of_getElem? (i := 1082) (by decide +kernel)) rfl
theorem wC_X7_days : Cond.code yX7_days cX7_days 3 (some .int) ∈ gx_ws := gx_in (List.mem_of_getElem? (i := 1087) (by decide +kernel)) rfl
theorem wS_X7_days : gx_St yX7_days mX7_days 1 := ⟨wC_X7_days, wI_X7, ⟨by decide +kernel, by decide +kernel, by decide +kernel⟩, by decide⟩
theorem wM_X7_days : Cond.instanceMethod yX7_days ∈ gx_ws := gx_in (List.mem_of_getElem? (i := 1085) (by decide +kernel)) rfl
theorem wV_X7_days : Cond.selects RX7 yX7_days yX7_days ∈ gx_ws := gx_in (List.mem_of_getElem? (i := 1086) (by decide +kernel)) rfl
theorem wC_X7_isFar : Cond.code yX7_isFar cX7_isFar 1 (some .boolean) ∈ gx_ws := gx_in (List.mem_of_getElem? (i := 1130) (by decide +kernel)) rfl
theorem wS_X7_isFar : gx_St yX7_isFar mX7_isFar 1 := ⟨wC_X7_isFar, wI_X7, ⟨by decide +kernel, by decide +kernel, by decide +kernel⟩, by decide⟩
theorem wT_X7_isFar : Cond.static yX7_isFar ∈ gx_ws := gx_in (List.mem_of_getElem? (i := 1129) (by decide +kernel)) rfl
theorem wC_X7_runs : Cond.code yX7_runs cX7_runs 6 (some .int) ∈ gx_ws := gx_in (List.mem_of_getElem? (i := 1127) (by decide +kernel)) rfl
theorem wS_X7_runs : gx_St yX7_runs mX7_runs 2 := ⟨wC_X7_runs, wI_X7, ⟨by decide +kernel, by decide +kernel, by decide +kernel⟩, by decide⟩
theorem wM_X7_runs : Cond.instanceMethod yX7_runs ∈ gx_ws := gx_in (List.mem_of_getElem? (i := 1125) (by decide +kernel)) rfl
theorem wV_X7_runs : Cond.selects RX7 yX7_runs yX7_runs ∈ gx_ws := gx_in (List.mem_of_getElem? (i := 1126) (by decide +kernel)) rfl
theorem wC_X7_ahead : Cond.code yX7_ahead cX7_ahead 4 (some .int) ∈ gx_ws := gx_in (List.mem_of_getElem? (i := 1136) (by decide +kernel)) rfl
theorem wS_X7_ahead : gx_St yX7_ahead mX7_ahead 3 := ⟨wC_X7_ahead, wI_X7, ⟨by decide +kernel, by decide +kernel, by decide +kernel⟩, by decide⟩
theorem wM_X7_ahead : Cond.instanceMethod yX7_ahead ∈ gx_ws := gx_in (List.mem_of_getElem? (i := 1134) (by decide +kernel)) rfl
theorem wV_X7_ahead : Cond.selects RX7 yX7_ahead yX7_ahead ∈ gx_ws := gx_in (List.mem_of_getElem? (i := 1135) (by decide +kernel)) rfl
theorem wC_X7_meets : Cond.code yX7_meets cX7_meets 3 (some .int) ∈ gx_ws := gx_in (List.mem_of_getElem? (i := 1140) (by decide +kernel)) rfl
theorem wS_X7_meets : gx_St yX7_meets mX7_meets 1 := ⟨wC_X7_meets, wI_X7, ⟨by decide +kernel, by decide +kernel, by decide +kernel⟩, by decide⟩
theorem wM_X7_meets : Cond.instanceMethod yX7_meets ∈ gx_ws := gx_in (List.mem_of_getElem? (i := 1138) (by decide +kernel)) rfl
theorem wV_X7_meets : Cond.selects RX7 yX7_meets yX7_meets ∈ gx_ws := gx_in (List.mem_of_getElem? (i := 1139) (by decide +kernel)) rfl
theorem wC_X7_startsJudging : Cond.code yX7_startsJudging cX7_startsJudging 2 none ∈ gx_ws := gx_in (List.mem_of_getElem? (i := 1148) (by decide +kernel)) rfl
theorem wS_X7_startsJudging : gx_St yX7_startsJudging mX7_startsJudging 1 := ⟨wC_X7_startsJudging, wI_X7, ⟨by decide +kernel, by decide +kernel, by decide +kernel⟩, by decide⟩
theorem wM_X7_startsJudging : Cond.instanceMethod yX7_startsJudging ∈ gx_ws := gx_in (List.mem_of_getElem? (i := 1147) (by decide +kernel)) rfl
theorem wV_X7_startsJudging : Cond.selects RX7 yX7_startsJudging yX7_startsJudging ∈ gx_ws := gx_in (List.mem_of_getElem? (i := 62) (by decide +kernel)) rfl
theorem wC_X7_judges : Cond.code yX7_judges cX7_judges 3 none ∈ gx_ws := gx_in (List.mem_of_getElem? (i := 1160) (by decide +kernel)) rfl
theorem wS_X7_judges : gx_St yX7_judges mX7_judges 2 := ⟨wC_X7_judges, wI_X7, ⟨by decide +kernel, by decide +kernel, by decide +kernel⟩, by decide⟩
theorem wM_X7_judges : Cond.instanceMethod yX7_judges ∈ gx_ws := gx_in (List.mem_of_getElem? (i := 1159) (by decide +kernel)) rfl
theorem wV_X7_judges : Cond.selects RX7 yX7_judges yX7_judges ∈ gx_ws := gx_in (List.mem_of_getElem? (i := 65) (by decide +kernel)) rfl
theorem wC_X7_judged : Cond.code yX7_judged cX7_judged 2 (some .int) ∈ gx_ws := gx_in (List.mem_of_getElem? (i := 1164) (by decide +kernel)) rfl
theorem wS_X7_judged : gx_St yX7_judged mX7_judged 1 := ⟨wC_X7_judged, wI_X7, ⟨by decide +kernel, by decide +kernel, by decide +kernel⟩, by decide⟩
theorem wM_X7_judged : Cond.instanceMethod yX7_judged ∈ gx_ws := gx_in (List.mem_of_getElem? (i := 1163) (by decide +kernel)) rfl
theorem wV_X7_judged : Cond.selects RX7 yX7_judged yX7_judged ∈ gx_ws := gx_in (List.mem_of_getElem? (i := 66) (by decide +kernel)) rfl
theorem wC_X7_place : Cond.code yX7_place cX7_place 5 (some .int) ∈ gx_ws := gx_in (List.mem_of_getElem? (i := 1144) (by decide +kernel)) rfl
theorem wS_X7_place : gx_St yX7_place mX7_place 3 := ⟨wC_X7_place, wI_X7, ⟨by decide +kernel, by decide +kernel, by decide +kernel⟩, by decide⟩
theorem wM_X7_place : Cond.instanceMethod yX7_place ∈ gx_ws := gx_in (List.mem_of_getElem? (i := 1142) (by decide +kernel)) rfl
theorem wV_X7_place : Cond.selects RX7 yX7_place yX7_place ∈ gx_ws := gx_in (List.mem_of_getElem? (i := 1143) (by decide +kernel)) rfl
theorem wC_X7_extra : Cond.code yX7_extra cX7_extra 4 (some .int) ∈ gx_ws := gx_in (List.mem_of_getElem? (i := 1168) (by decide +kernel)) rfl
theorem wS_X7_extra : gx_St yX7_extra mX7_extra 2 := ⟨wC_X7_extra, wI_X7, ⟨by decide +kernel, by decide +kernel, by decide +kernel⟩, by decide⟩
theorem wM_X7_extra : Cond.instanceMethod yX7_extra ∈ gx_ws := gx_in (List.mem_of_getElem? (i := 1166) (by decide +kernel)) rfl
theorem wV_X7_extra : Cond.selects RX7 yX7_extra yX7_extra ∈ gx_ws := gx_in (List.mem_of_getElem? (i := 1167) (by decide +kernel)) rfl
theorem wC_X7_swap : Cond.code yX7_swap cX7_swap 5 (some .int) ∈ gx_ws := gx_in (List.mem_of_getElem? (i := 1172) (by decide +kernel)) rfl
theorem wS_X7_swap : gx_St yX7_swap mX7_swap 2 := ⟨wC_X7_swap, wI_X7, ⟨by decide +kernel, by decide +kernel, by decide +kernel⟩, by decide⟩
theorem wM_X7_swap : Cond.instanceMethod yX7_swap ∈ gx_ws := gx_in (List.mem_of_getElem? (i := 1170) (by decide +kernel)) rfl
theorem wV_X7_swap : Cond.selects RX7 yX7_swap yX7_swap ∈ gx_ws := gx_in (List.mem_of_getElem? (i := 1171) (by decide +kernel)) rfl
theorem wC_X7_shun : Cond.code yX7_shun cX7_shun 5 (some .int) ∈ gx_ws := gx_in (List.mem_of_getElem? (i := 1176) (by decide +kernel)) rfl
theorem wS_X7_shun : gx_St yX7_shun mX7_shun 2 := ⟨wC_X7_shun, wI_X7, ⟨by decide +kernel, by decide +kernel, by decide +kernel⟩, by decide⟩
theorem wM_X7_shun : Cond.instanceMethod yX7_shun ∈ gx_ws := gx_in (List.mem_of_getElem? (i := 1174) (by decide +kernel)) rfl
theorem wV_X7_shun : Cond.selects RX7 yX7_shun yX7_shun ∈ gx_ws := gx_in (List.mem_of_getElem? (i := 1175) (by decide +kernel)) rfl
theorem wC_X7_need : Cond.code yX7_need cX7_need 4 (some .int) ∈ gx_ws := gx_in (List.mem_of_getElem? (i := 1180) (by decide +kernel)) rfl
theorem wS_X7_need : gx_St yX7_need mX7_need 2 := ⟨wC_X7_need, wI_X7, ⟨by decide +kernel, by decide +kernel, by decide +kernel⟩, by decide⟩
theorem wM_X7_need : Cond.instanceMethod yX7_need ∈ gx_ws := gx_in (List.mem_of_getElem? (i := 1178) (by decide +kernel)) rfl
theorem wV_X7_need : Cond.selects RX7 yX7_need yX7_need ∈ gx_ws := gx_in (List.mem_of_getElem? (i := 1179) (by decide +kernel)) rfl
theorem wC_X7_kind : Cond.code yX7_kind cX7_kind 5 (some .int) ∈ gx_ws := gx_in (List.mem_of_getElem? (i := 1184) (by decide +kernel)) rfl
theorem wS_X7_kind : gx_St yX7_kind mX7_kind 3 := ⟨wC_X7_kind, wI_X7, ⟨by decide +kernel, by decide +kernel, by decide +kernel⟩, by decide⟩
theorem wM_X7_kind : Cond.instanceMethod yX7_kind ∈ gx_ws := gx_in (List.mem_of_getElem? (i := 1182) (by decide +kernel)) rfl
theorem wV_X7_kind : Cond.selects RX7 yX7_kind yX7_kind ∈ gx_ws := gx_in (List.mem_of_getElem? (i := 1183) (by decide +kernel)) rfl
theorem wC_X7_drop : Cond.code yX7_drop cX7_drop 5 (some .int) ∈ gx_ws := gx_in (List.mem_of_getElem? (i := 1188) (by decide +kernel)) rfl
theorem wS_X7_drop : gx_St yX7_drop mX7_drop 3 := ⟨wC_X7_drop, wI_X7, ⟨by decide +kernel, by decide +kernel, by decide +kernel⟩, by decide⟩
theorem wM_X7_drop : Cond.instanceMethod yX7_drop ∈ gx_ws := gx_in (List.mem_of_getElem? (i := 1186) (by decide +kernel)) rfl
theorem wV_X7_drop : Cond.selects RX7 yX7_drop yX7_drop ∈ gx_ws := gx_in (List.mem_of_getElem? (i := 1187) (by decide +kernel)) rfl
theorem wC_X7_common : Cond.code yX7_common cX7_common 10 (some .long) ∈ gx_ws := gx_in (List.mem_of_getElem? (i := 1205) (by decide +kernel)) rfl
theorem wS_X7_common : gx_St yX7_common mX7_common 2 := ⟨wC_X7_common, wI_X7, ⟨by decide +kernel, by decide +kernel, by decide +kernel⟩, by decide⟩
theorem wT_X7_common : Cond.static yX7_common ∈ gx_ws := gx_in (List.mem_of_getElem? (i := 1204) (by decide +kernel)) rfl
theorem wC_X7_told : Cond.code yX7_told cX7_told 7 (some .long) ∈ gx_ws := gx_in (List.mem_of_getElem? (i := 1202) (by decide +kernel)) rfl
theorem wS_X7_told : gx_St yX7_told mX7_told 3 := ⟨wC_X7_told, wI_X7, ⟨by decide +kernel, by decide +kernel, by decide +kernel⟩, by decide⟩
theorem wT_X7_told : Cond.static yX7_told ∈ gx_ws := gx_in (List.mem_of_getElem? (i := 1201) (by decide +kernel)) rfl
theorem wC_X7_findOdds : Cond.code yX7_findOdds cX7_findOdds 9 none ∈ gx_ws := gx_in (List.mem_of_getElem? (i := 1199) (by decide +kernel)) rfl
theorem wS_X7_findOdds : gx_St yX7_findOdds mX7_findOdds 3 := ⟨wC_X7_findOdds, wI_X7, ⟨by decide +kernel, by decide +kernel, by decide +kernel⟩, by decide⟩
theorem wM_X7_findOdds : Cond.instanceMethod yX7_findOdds ∈ gx_ws := gx_in (List.mem_of_getElem? (i := 1198) (by decide +kernel)) rfl
theorem wV_X7_findOdds : Cond.selects RX7 yX7_findOdds yX7_findOdds ∈ gx_ws := gx_in (List.mem_of_getElem? (i := 67) (by decide +kernel)) rfl
theorem wC_X7_luck : Cond.code yX7_luck cX7_luck 5 (some .long) ∈ gx_ws := gx_in (List.mem_of_getElem? (i := 1192) (by decide +kernel)) rfl
theorem wS_X7_luck : gx_St yX7_luck mX7_luck 4 := ⟨wC_X7_luck, wI_X7, ⟨by decide +kernel, by decide +kernel, by decide +kernel⟩, by decide⟩
theorem wM_X7_luck : Cond.instanceMethod yX7_luck ∈ gx_ws := gx_in (List.mem_of_getElem? (i := 1190) (by decide +kernel)) rfl
theorem wV_X7_luck : Cond.selects RX7 yX7_luck yX7_luck ∈ gx_ws := gx_in (List.mem_of_getElem? (i := 1191) (by decide +kernel)) rfl
theorem wC_X7_mean : Cond.code yX7_mean cX7_mean 4 (some .long) ∈ gx_ws := gx_in (List.mem_of_getElem? (i := 1209) (by decide +kernel)) rfl
theorem wS_X7_mean : gx_St yX7_mean mX7_mean 3 := ⟨wC_X7_mean, wI_X7, ⟨by decide +kernel, by decide +kernel, by decide +kernel⟩, by decide⟩
theorem wM_X7_mean : Cond.instanceMethod yX7_mean ∈ gx_ws := gx_in (List.mem_of_getElem? (i := 1207) (by decide +kernel)) rfl
theorem wV_X7_mean : Cond.selects RX7 yX7_mean yX7_mean ∈ gx_ws := gx_in (List.mem_of_getElem? (i := 1208) (by decide +kernel)) rfl
theorem wC_X7_see : Cond.code yX7_see cX7_see 5 (some .int) ∈ gx_ws := gx_in (List.mem_of_getElem? (i := 1213) (by decide +kernel)) rfl
theorem wS_X7_see : gx_St yX7_see mX7_see 3 := ⟨wC_X7_see, wI_X7, ⟨by decide +kernel, by decide +kernel, by decide +kernel⟩, by decide⟩
theorem wM_X7_see : Cond.instanceMethod yX7_see ∈ gx_ws := gx_in (List.mem_of_getElem? (i := 1211) (by decide +kernel)) rfl
theorem wV_X7_see : Cond.selects RX7 yX7_see yX7_see ∈ gx_ws := gx_in (List.mem_of_getElem? (i := 1212) (by decide +kernel)) rfl
theorem wC_X7_forget : Cond.code yX7_forget cX7_forget 2 (some .int) ∈ gx_ws := gx_in (List.mem_of_getElem? (i := 1217) (by decide +kernel)) rfl
theorem wS_X7_forget : gx_St yX7_forget mX7_forget 1 := ⟨wC_X7_forget, wI_X7, ⟨by decide +kernel, by decide +kernel, by decide +kernel⟩, by decide⟩
theorem wM_X7_forget : Cond.instanceMethod yX7_forget ∈ gx_ws := gx_in (List.mem_of_getElem? (i := 1215) (by decide +kernel)) rfl
theorem wV_X7_forget : Cond.selects RX7 yX7_forget yX7_forget ∈ gx_ws := gx_in (List.mem_of_getElem? (i := 1216) (by decide +kernel)) rfl
theorem wC_X7_isSoWith : Cond.code yX7_isSoWith cX7_isSoWith 6 (some .boolean) ∈ gx_ws := gx_in (List.mem_of_getElem? (i := 1229) (by decide +kernel)) rfl
theorem wS_X7_isSoWith : gx_St yX7_isSoWith mX7_isSoWith 2 := ⟨wC_X7_isSoWith, wI_X7, ⟨by decide +kernel, by decide +kernel, by decide +kernel⟩, by decide⟩
theorem wM_X7_isSoWith : Cond.instanceMethod yX7_isSoWith ∈ gx_ws := gx_in (List.mem_of_getElem? (i := 1228) (by decide +kernel)) rfl
theorem wV_X7_isSoWith : Cond.selects RX7 yX7_isSoWith yX7_isSoWith ∈ gx_ws := gx_in (List.mem_of_getElem? (i := 69) (by decide +kernel)) rfl
theorem wC_X7_which : Cond.code yX7_which cX7_which 5 (some .int) ∈ gx_ws := gx_in (List.mem_of_getElem? (i := 1225) (by decide +kernel)) rfl
theorem wS_X7_which : gx_St yX7_which mX7_which 2 := ⟨wC_X7_which, wI_X7, ⟨by decide +kernel, by decide +kernel, by decide +kernel⟩, by decide⟩
theorem wM_X7_which : Cond.instanceMethod yX7_which ∈ gx_ws := gx_in (List.mem_of_getElem? (i := 1224) (by decide +kernel)) rfl
theorem wV_X7_which : Cond.selects RX7 yX7_which yX7_which ∈ gx_ws := gx_in (List.mem_of_getElem? (i := 68) (by decide +kernel)) rfl
theorem wC_X7_kinds : Cond.code yX7_kinds cX7_kinds 2 (some .int) ∈ gx_ws := gx_in (List.mem_of_getElem? (i := 1221) (by decide +kernel)) rfl
theorem wS_X7_kinds : gx_St yX7_kinds mX7_kinds 1 := ⟨wC_X7_kinds, wI_X7, ⟨by decide +kernel, by decide +kernel, by decide +kernel⟩, by decide⟩
theorem wM_X7_kinds : Cond.instanceMethod yX7_kinds ∈ gx_ws := gx_in (List.mem_of_getElem? (i := 1219) (by decide +kernel)) rfl
theorem wV_X7_kinds : Cond.selects RX7 yX7_kinds yX7_kinds ∈ gx_ws := gx_in (List.mem_of_getElem? (i := 1220) (by decide +kernel)) rfl
theorem wC_X7_doors : Cond.code yX7_doors cX7_doors 2 (some .int) ∈ gx_ws := gx_in (List.mem_of_getElem? (i := 1233) (by decide +kernel)) rfl
theorem wS_X7_doors : gx_St yX7_doors mX7_doors 1 := ⟨wC_X7_doors, wI_X7, ⟨by decide +kernel, by decide +kernel, by decide +kernel⟩, by decide⟩
theorem wM_X7_doors : Cond.instanceMethod yX7_doors ∈ gx_ws := gx_in (List.mem_of_getElem? (i := 1231) (by decide +kernel)) rfl
theorem wV_X7_doors : Cond.selects RX7 yX7_doors yX7_doors ∈ gx_ws := gx_in (List.mem_of_getElem? (i := 1232) (by decide +kernel)) rfl
theorem wC_X7_ask : Cond.code yX7_ask cX7_ask 11 (some .int) ∈ gx_ws := gx_in (List.mem_of_getElem? (i := 1237) (by decide +kernel)) rfl
theorem wS_X7_ask : gx_St yX7_ask mX7_ask 2 := ⟨wC_X7_ask, wI_X7, ⟨by decide +kernel, by decide +kernel, by decide +kernel⟩, by decide⟩
theorem wM_X7_ask : Cond.instanceMethod yX7_ask ∈ gx_ws := gx_in (List.mem_of_getElem? (i := 1235) (by decide +kernel)) rfl
theorem wV_X7_ask : Cond.selects RX7 yX7_ask yX7_ask ∈ gx_ws := gx_in (List.mem_of_getElem? (i := 1236) (by decide +kernel)) rfl
theorem wC_X7_drift : Cond.code yX7_drift cX7_drift 6 (some .int) ∈ gx_ws := gx_in (List.mem_of_getElem? (i := 1241) (by decide +kernel)) rfl
theorem wS_X7_drift : gx_St yX7_drift mX7_drift 3 := ⟨wC_X7_drift, wI_X7, ⟨by decide +kernel, by decide +kernel, by decide +kernel⟩, by decide⟩
theorem wM_X7_drift : Cond.instanceMethod yX7_drift ∈ gx_ws := gx_in (List.mem_of_getElem? (i := 1239) (by decide +kernel)) rfl
theorem wV_X7_drift : Cond.selects RX7 yX7_drift yX7_drift ∈ gx_ws := gx_in (List.mem_of_getElem? (i := 1240) (by decide +kernel)) rfl
theorem wC_X7_copies : Cond.code yX7_copies cX7_copies 4 none ∈ gx_ws := gx_in (List.mem_of_getElem? (i := 1250) (by decide +kernel)) rfl
theorem wS_X7_copies : gx_St yX7_copies mX7_copies 2 := ⟨wC_X7_copies, wI_X7, ⟨by decide +kernel, by decide +kernel, by decide +kernel⟩, by decide⟩
theorem wM_X7_copies : Cond.instanceMethod yX7_copies ∈ gx_ws := gx_in (List.mem_of_getElem? (i := 1249) (by decide +kernel)) rfl
theorem wV_X7_copies : Cond.selects RX7 yX7_copies yX7_copies ∈ gx_ws := gx_in (List.mem_of_getElem? (i := 70) (by decide +kernel)) rfl
theorem wC_X7_keep : Cond.code yX7_keep cX7_keep 3 (some .int) ∈ gx_ws := gx_in (List.mem_of_getElem? (i := 1246) (by decide +kernel)) rfl
theorem wS_X7_keep : gx_St yX7_keep mX7_keep 1 := ⟨wC_X7_keep, wI_X7, ⟨by decide +kernel, by decide +kernel, by decide +kernel⟩, by decide⟩
theorem wM_X7_keep : Cond.instanceMethod yX7_keep ∈ gx_ws := gx_in (List.mem_of_getElem? (i := 1244) (by decide +kernel)) rfl
theorem wV_X7_keep : Cond.selects RX7 yX7_keep yX7_keep ∈ gx_ws := gx_in (List.mem_of_getElem? (i := 1245) (by decide +kernel)) rfl
theorem wC_X7_back : Cond.code yX7_back cX7_back 2 (some .int) ∈ gx_ws := gx_in (List.mem_of_getElem? (i := 1254) (by decide +kernel)) rfl
theorem wS_X7_back : gx_St yX7_back mX7_back 1 := ⟨wC_X7_back, wI_X7, ⟨by decide +kernel, by decide +kernel, by decide +kernel⟩, by decide⟩
theorem wM_X7_back : Cond.instanceMethod yX7_back ∈ gx_ws := gx_in (List.mem_of_getElem? (i := 1252) (by decide +kernel)) rfl
theorem wV_X7_back : Cond.selects RX7 yX7_back yX7_back ∈ gx_ws := gx_in (List.mem_of_getElem? (i := 1253) (by decide +kernel)) rfl
theorem wC_X7_isSheet : Cond.code yX7_isSheet cX7_isSheet 2 (some .boolean) ∈ gx_ws := gx_in (List.mem_of_getElem? (i := 1261) (by decide +kernel)) rfl
theorem wS_X7_isSheet : gx_St yX7_isSheet mX7_isSheet 2 := ⟨wC_X7_isSheet, wI_X7, ⟨by decide +kernel, by decide +kernel, by decide +kernel⟩, by decide⟩
theorem wT_X7_isSheet : Cond.static yX7_isSheet ∈ gx_ws := gx_in (List.mem_of_getElem? (i := 1260) (by decide +kernel)) rfl
theorem wC_X7_sheet : Cond.code yX7_sheet cX7_sheet 5 (some .int) ∈ gx_ws := gx_in (List.mem_of_getElem? (i := 1258) (by decide +kernel)) rfl
theorem wS_X7_sheet : gx_St yX7_sheet mX7_sheet 3 := ⟨wC_X7_sheet, wI_X7, ⟨by decide +kernel, by decide +kernel, by decide +kernel⟩, by decide⟩
theorem wM_X7_sheet : Cond.instanceMethod yX7_sheet ∈ gx_ws := gx_in (List.mem_of_getElem? (i := 1256) (by decide +kernel)) rfl
theorem wV_X7_sheet : Cond.selects RX7 yX7_sheet yX7_sheet ∈ gx_ws := gx_in (List.mem_of_getElem? (i := 1257) (by decide +kernel)) rfl
theorem wC_X7_lay : Cond.code yX7_lay cX7_lay 4 (some .int) ∈ gx_ws := gx_in (List.mem_of_getElem? (i := 1266) (by decide +kernel)) rfl
theorem wS_X7_lay : gx_St yX7_lay mX7_lay 3 := ⟨wC_X7_lay, wI_X7, ⟨by decide +kernel, by decide +kernel, by decide +kernel⟩, by decide⟩
theorem wM_X7_lay : Cond.instanceMethod yX7_lay ∈ gx_ws := gx_in (List.mem_of_getElem? (i := 1264) (by decide +kernel)) rfl
theorem wV_X7_lay : Cond.selects RX7 yX7_lay yX7_lay ∈ gx_ws := gx_in (List.mem_of_getElem? (i := 1265) (by decide +kernel)) rfl
theorem wC_X7_read : Cond.code yX7_read cX7_read 11 (some .int) ∈ gx_ws := gx_in (List.mem_of_getElem? (i := 1270) (by decide +kernel)) rfl
theorem wS_X7_read : gx_St yX7_read mX7_read 4 := ⟨wC_X7_read, wI_X7, ⟨by decide +kernel, by decide +kernel, by decide +kernel⟩, by decide⟩
theorem wM_X7_read : Cond.instanceMethod yX7_read ∈ gx_ws := gx_in (List.mem_of_getElem? (i := 1268) (by decide +kernel)) rfl
theorem wV_X7_read : Cond.selects RX7 yX7_read yX7_read ∈ gx_ws := gx_in (List.mem_of_getElem? (i := 1269) (by decide +kernel)) rfl
theorem wC_X7_torn : Cond.code yX7_torn cX7_torn 1 (some .int) ∈ gx_ws := gx_in (List.mem_of_getElem? (i := 1275) (by decide +kernel)) rfl
theorem wS_X7_torn : gx_St yX7_torn mX7_torn 0 := ⟨wC_X7_torn, wI_X7, ⟨by decide +kernel, by decide +kernel, by decide +kernel⟩, by decide⟩
theorem wM_X7_torn : Cond.instanceMethod yX7_torn ∈ gx_ws := gx_in (List.mem_of_getElem? (i := 1273) (by decide +kernel)) rfl
theorem wV_X7_torn : Cond.selects RX7 yX7_torn yX7_torn ∈ gx_ws := gx_in (List.mem_of_getElem? (i := 1274) (by decide +kernel)) rfl
theorem wC_X7_count : Cond.code yX7_count cX7_count 5 (some .int) ∈ gx_ws := gx_in (List.mem_of_getElem? (i := 1279) (by decide +kernel)) rfl
theorem wS_X7_count : gx_St yX7_count mX7_count 1 := ⟨wC_X7_count, wI_X7, ⟨by decide +kernel, by decide +kernel, by decide +kernel⟩, by decide⟩
theorem wM_X7_count : Cond.instanceMethod yX7_count ∈ gx_ws := gx_in (List.mem_of_getElem? (i := 1277) (by decide +kernel)) rfl
theorem wV_X7_count : Cond.selects RX7 yX7_count yX7_count ∈ gx_ws := gx_in (List.mem_of_getElem? (i := 1278) (by decide +kernel)) rfl
theorem wC_J6_bitCount_0f7a4 : Cond.code yJ6_bitCount_0f7a4 cJ6_bitCount_0f7a4 1 (some .int) ∈ gx_ws := gx_in (List.mem_of_getElem? (i := 612) (by decide +kernel)) rfl
theorem wS_J6_bitCount_0f7a4 : gx_St yJ6_bitCount_0f7a4 mJ6_bitCount_0f7a4 1 := ⟨wC_J6_bitCount_0f7a4, wI_J6, ⟨by decide +kernel, by decide +kernel, by decide +kernel⟩, by decide⟩
theorem wT_J6_bitCount_0f7a4 : Cond.static yJ6_bitCount_0f7a4 ∈ gx_ws := gx_in (List.mem_of_getElem? (i := 611) (by decide +kernel)) rfl
theorem wC_J9_abs_0f7a4 : Cond.code yJ9_abs_0f7a4 cJ9_abs_0f7a4 1 (some .int) ∈ gx_ws := gx_in (List.mem_of_getElem? (i := 494) (by decide +kernel)) rfl
theorem wS_J9_abs_0f7a4 : gx_St yJ9_abs_0f7a4 mJ9_abs_0f7a4 1 := ⟨wC_J9_abs_0f7a4, wI_J9, ⟨by decide +kernel, by decide +kernel, by decide +kernel⟩, by decide⟩
theorem wT_J9_abs_0f7a4 : Cond.static yJ9_abs_0f7a4 ∈ gx_ws := gx_in (List.mem_of_getElem? (i := 493) (by decide +kernel)) rfl
theorem wC_J9_max_7cf53 : Cond.code yJ9_max_7cf53 cJ9_max_7cf53 2 (some .int) ∈ gx_ws := gx_in (List.mem_of_getElem? (i := 605) (by decide +kernel)) rfl
theorem wS_J9_max_7cf53 : gx_St yJ9_max_7cf53 mJ9_max_7cf53 2 := ⟨wC_J9_max_7cf53, wI_J9, ⟨by decide +kernel, by decide +kernel, by decide +kernel⟩, by decide⟩
theorem wT_J9_max_7cf53 : Cond.static yJ9_max_7cf53 ∈ gx_ws := gx_in (List.mem_of_getElem? (i := 604) (by decide +kernel)) rfl
theorem wC_J9_max_f86c9 : Cond.code yJ9_max_f86c9 cJ9_max_f86c9 4 (some .long) ∈ gx_ws := gx_in (List.mem_of_getElem? (i := 675) (by decide +kernel)) rfl
theorem wS_J9_max_f86c9 : gx_St yJ9_max_f86c9 mJ9_max_f86c9 2 := ⟨wC_J9_max_f86c9, wI_J9, ⟨by decide +kernel, by decide +kernel, by decide +kernel⟩, by decide⟩
theorem wT_J9_max_f86c9 : Cond.static yJ9_max_f86c9 ∈ gx_ws := gx_in (List.mem_of_getElem? (i := 674) (by decide +kernel)) rfl
theorem wC_J9_min_7cf53 : Cond.code yJ9_min_7cf53 cJ9_min_7cf53 2 (some .int) ∈ gx_ws := gx_in (List.mem_of_getElem? (i := 497) (by decide +kernel)) rfl
theorem wS_J9_min_7cf53 : gx_St yJ9_min_7cf53 mJ9_min_7cf53 2 := ⟨wC_J9_min_7cf53, wI_J9, ⟨by decide +kernel, by decide +kernel, by decide +kernel⟩, by decide⟩
theorem wT_J9_min_7cf53 : Cond.static yJ9_min_7cf53 ∈ gx_ws := gx_in (List.mem_of_getElem? (i := 496) (by decide +kernel)) rfl
theorem wC_J0_length_8abf5 : Cond.code yJ0_length_8abf5 cJ0_length_8abf5 1 (some .int) ∈ gx_ws := gx_in (List.mem_of_getElem? (i := 380) (by decide +kernel)) rfl
theorem wS_J0_length_8abf5 : gx_St yJ0_length_8abf5 mJ0_length_8abf5 0 := ⟨wC_J0_length_8abf5, wI_J0, ⟨by decide +kernel, by decide +kernel, by decide +kernel⟩, by decide⟩
theorem wM_J0_length_8abf5 : Cond.instanceMethod yJ0_length_8abf5 ∈ gx_ws := gx_in (List.mem_of_getElem? (i := 378) (by decide +kernel)) rfl
theorem wV_J0_length_8abf5 : Cond.selects RJ0 yJ0_length_8abf5 yJ0_length_8abf5 ∈ gx_ws := gx_in (List.mem_of_getElem? (i := 379) (by decide +kernel)) rfl
theorem wC_J0_charAt_5068e : Cond.code yJ0_charAt_5068e cJ0_charAt_5068e 2 (some .char) ∈ gx_ws := gx_in (List.mem_of_getElem? (i := 390) (by decide +kernel)) rfl
theorem wS_J0_charAt_5068e : gx_St yJ0_charAt_5068e mJ0_charAt_5068e 1 := ⟨wC_J0_charAt_5068e, wI_J0, ⟨by decide +kernel, by decide +kernel, by decide +kernel⟩, by decide⟩
theorem wM_J0_charAt_5068e : Cond.instanceMethod yJ0_charAt_5068e ∈ gx_ws := gx_in (List.mem_of_getElem? (i := 388) (by decide +kernel)) rfl
theorem wV_J0_charAt_5068e : Cond.selects RJ0 yJ0_charAt_5068e yJ0_charAt_5068e ∈ gx_ws := gx_in (List.mem_of_getElem? (i := 389) (by decide +kernel)) rfl
theorem wC_J0_coder_7d493 : Cond.code yJ0_coder_7d493 cJ0_coder_7d493 1 (some .byte) ∈ gx_ws := gx_in (List.mem_of_getElem? (i := 384) (by decide +kernel)) rfl
theorem wS_J0_coder_7d493 : gx_St yJ0_coder_7d493 mJ0_coder_7d493 0 := ⟨wC_J0_coder_7d493, wI_J0, ⟨by decide +kernel, by decide +kernel, by decide +kernel⟩, by decide⟩
theorem wM_J0_coder_7d493 : Cond.instanceMethod yJ0_coder_7d493 ∈ gx_ws := gx_in (List.mem_of_getElem? (i := 382) (by decide +kernel)) rfl
theorem wV_J0_coder_7d493 : Cond.selects RJ0 yJ0_coder_7d493 yJ0_coder_7d493 ∈ gx_ws := gx_in (List.mem_of_getElem? (i := 383) (by decide +kernel)) rfl
theorem wC_J0_isLatin1_aae02 : Cond.code yJ0_isLatin1_aae02 cJ0_isLatin1_aae02 1 (some .boolean) ∈ gx_ws := gx_in (List.mem_of_getElem? (i := 394) (by decide +kernel)) rfl
theorem wS_J0_isLatin1_aae02 : gx_St yJ0_isLatin1_aae02 mJ0_isLatin1_aae02 0 := ⟨wC_J0_isLatin1_aae02, wI_J0, ⟨by decide +kernel, by decide +kernel, by decide +kernel⟩, by decide⟩
theorem wM_J0_isLatin1_aae02 : Cond.instanceMethod yJ0_isLatin1_aae02 ∈ gx_ws := gx_in (List.mem_of_getElem? (i := 392) (by decide +kernel)) rfl
theorem wV_J0_isLatin1_aae02 : Cond.selects RJ0 yJ0_isLatin1_aae02 yJ0_isLatin1_aae02 ∈ gx_ws := gx_in (List.mem_of_getElem? (i := 393) (by decide +kernel)) rfl
theorem wC_J0_checkIndex_df160 : Cond.code yJ0_checkIndex_df160 cJ0_checkIndex_df160 2 none ∈ gx_ws := gx_in (List.mem_of_getElem? (i := 400) (by decide +kernel)) rfl
theorem wS_J0_checkIndex_df160 : gx_St yJ0_checkIndex_df160 mJ0_checkIndex_df160 2 := ⟨wC_J0_checkIndex_df160, wI_J0, ⟨by decide +kernel, by decide +kernel, by decide +kernel⟩, by decide⟩
theorem wT_J0_checkIndex_df160 : Cond.static yJ0_checkIndex_df160 ∈ gx_ws := gx_in (List.mem_of_getElem? (i := 399) (by decide +kernel)) rfl
theorem wC_J1_charAt_3b067 : Cond.code yJ1_charAt_3b067 cJ1_charAt_3b067 2 (some .char) ∈ gx_ws := gx_in (List.mem_of_getElem? (i := 397) (by decide +kernel)) rfl
theorem wS_J1_charAt_3b067 : gx_St yJ1_charAt_3b067 mJ1_charAt_3b067 2 := ⟨wC_J1_charAt_3b067, wI_J1, ⟨by decide +kernel, by decide +kernel, by decide +kernel⟩, by decide⟩
theorem wT_J1_charAt_3b067 : Cond.static yJ1_charAt_3b067 ∈ gx_ws := gx_in (List.mem_of_getElem? (i := 396) (by decide +kernel)) rfl
theorem wC_J2_getChar_3b067 : Cond.code yJ2_getChar_3b067 cJ2_getChar_3b067 2 (some .char) ∈ gx_ws := gx_in (List.mem_of_getElem? (i := 418) (by decide +kernel)) rfl
theorem wS_J2_getChar_3b067 : gx_St yJ2_getChar_3b067 mJ2_getChar_3b067 2 := ⟨wC_J2_getChar_3b067, wI_J2, ⟨by decide +kernel, by decide +kernel, by decide +kernel⟩, by decide⟩
theorem wT_J2_getChar_3b067 : Cond.static yJ2_getChar_3b067 ∈ gx_ws := gx_in (List.mem_of_getElem? (i := 417) (by decide +kernel)) rfl
theorem wC_J2_length_9d52b : Cond.code yJ2_length_9d52b cJ2_length_9d52b 1 (some .int) ∈ gx_ws := gx_in (List.mem_of_getElem? (i := 414) (by decide +kernel)) rfl
theorem wS_J2_length_9d52b : gx_St yJ2_length_9d52b mJ2_length_9d52b 1 := ⟨wC_J2_length_9d52b, wI_J2, ⟨by decide +kernel, by decide +kernel, by decide +kernel⟩, by decide⟩
theorem wT_J2_length_9d52b : Cond.static yJ2_length_9d52b ∈ gx_ws := gx_in (List.mem_of_getElem? (i := 413) (by decide +kernel)) rfl
theorem wC_J2_charAt_3b067 : Cond.code yJ2_charAt_3b067 cJ2_charAt_3b067 2 (some .char) ∈ gx_ws := gx_in (List.mem_of_getElem? (i := 408) (by decide +kernel)) rfl
theorem wS_J2_charAt_3b067 : gx_St yJ2_charAt_3b067 mJ2_charAt_3b067 2 := ⟨wC_J2_charAt_3b067, wI_J2, ⟨by decide +kernel, by decide +kernel, by decide +kernel⟩, by decide⟩
theorem wT_J2_charAt_3b067 : Cond.static yJ2_charAt_3b067 ∈ gx_ws := gx_in (List.mem_of_getElem? (i := 407) (by decide +kernel)) rfl
theorem wC_J2_checkIndex_2214a : Cond.code yJ2_checkIndex_2214a cJ2_checkIndex_2214a 2 none ∈ gx_ws := gx_in (List.mem_of_getElem? (i := 411) (by decide +kernel)) rfl
theorem wS_J2_checkIndex_2214a : gx_St yJ2_checkIndex_2214a mJ2_checkIndex_2214a 2 := ⟨wC_J2_checkIndex_2214a, wI_J2, ⟨by decide +kernel, by decide +kernel, by decide +kernel⟩, by decide⟩
theorem wT_J2_checkIndex_2214a : Cond.static yJ2_checkIndex_2214a ∈ gx_ws := gx_in (List.mem_of_getElem? (i := 410) (by decide +kernel)) rfl
theorem wC_J7_fill_53178 : Cond.code yJ7_fill_53178 cJ7_fill_53178 4 none ∈ gx_ws := gx_in (List.mem_of_getElem? (i := 332) (by decide +kernel)) rfl
theorem wS_J7_fill_53178 : gx_St yJ7_fill_53178 mJ7_fill_53178 2 := ⟨wC_J7_fill_53178, wI_J7, ⟨by decide +kernel, by decide +kernel, by decide +kernel⟩, by decide⟩
theorem wT_J7_fill_53178 : Cond.static yJ7_fill_53178 ∈ gx_ws := gx_in (List.mem_of_getElem? (i := 331) (by decide +kernel)) rfl
theorem wC_J3_checkIndex_8e157 : Cond.code yJ3_checkIndex_8e157 cJ3_checkIndex_8e157 3 (some .int) ∈ gx_ws := gx_in (List.mem_of_getElem? (i := 405) (by decide +kernel)) rfl
theorem wS_J3_checkIndex_8e157 : gx_St yJ3_checkIndex_8e157 mJ3_checkIndex_8e157 3 := ⟨wC_J3_checkIndex_8e157, wI_J3, ⟨by decide +kernel, by decide +kernel, by decide +kernel⟩, by decide⟩
theorem wT_J3_checkIndex_8e157 : Cond.static yJ3_checkIndex_8e157 ∈ gx_ws := gx_in (List.mem_of_getElem? (i := 404) (by decide +kernel)) rfl
end
section
theorem zz_test : 1 + 1 = 2 := rfl
end
