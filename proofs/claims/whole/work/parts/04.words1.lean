theorem wm_L_176 : Cond.methodLink RL 176 yX6_count ∈ gx_ws := gx_in (List.mem_of_getElem? (i := 783) (by decide +kernel)) rfl
theorem wm_L_179 : Cond.methodLink RL 179 yX7_count ∈ gx_ws := gx_in (List.mem_of_getElem? (i := 1273) (by decide +kernel)) rfl
theorem wc_L_7 : Cond.classLink RL 7 RX6 ∈ gx_ws := gx_in (List.mem_of_getElem? (i := 88) (by decide +kernel)) rfl
theorem wc_L_10 : Cond.classLink RL 10 RX7 ∈ gx_ws := gx_in (List.mem_of_getElem? (i := 795) (by decide +kernel)) rfl
theorem wf_X7_7 : Cond.fieldLink RX7 7 (TX7 0).1 (TX7 0).2.1 (TX7 0).2.2.1 ∈ gx_ws := gx_in (List.mem_of_getElem? (i := 809) (by decide +kernel)) rfl
theorem wf_X7_13 : Cond.fieldLink RX7 13 (TX7 1).1 (TX7 1).2.1 (TX7 1).2.2.1 ∈ gx_ws := gx_in (List.mem_of_getElem? (i := 810) (by decide +kernel)) rfl
theorem wf_X7_16 : Cond.fieldLink RX7 16 (TX7 2).1 (TX7 2).2.1 (TX7 2).2.2.1 ∈ gx_ws := gx_in (List.mem_of_getElem? (i := 811) (by decide +kernel)) rfl
theorem wf_X7_20 : Cond.fieldLink RX7 20 (TX7 4).1 (TX7 4).2.1 (TX7 4).2.2.1 ∈ gx_ws := gx_in (List.mem_of_getElem? (i := 813) (by decide +kernel)) rfl
theorem wf_X7_23 : Cond.fieldLink RX7 23 (TX7 10).1 (TX7 10).2.1 (TX7 10).2.2.1 ∈ gx_ws := gx_in (List.mem_of_getElem? (i := 819) (by decide +kernel)) rfl
theorem wf_X7_26 : Cond.fieldLink RX7 26 (TX7 23).1 (TX7 23).2.1 (TX7 23).2.2.1 ∈ gx_ws := gx_in (List.mem_of_getElem? (i := 832) (by decide +kernel)) rfl
theorem wf_X7_29 : Cond.fieldLink RX7 29 (TX7 24).1 (TX7 24).2.1 (TX7 24).2.2.1 ∈ gx_ws := gx_in (List.mem_of_getElem? (i := 833) (by decide +kernel)) rfl
theorem wf_X7_32 : Cond.fieldLink RX7 32 (TX7 25).1 (TX7 25).2.1 (TX7 25).2.2.1 ∈ gx_ws := gx_in (List.mem_of_getElem? (i := 834) (by decide +kernel)) rfl
theorem wf_X7_35 : Cond.fieldLink RX7 35 (TX7 26).1 (TX7 26).2.1 (TX7 26).2.2.1 ∈ gx_ws := gx_in (List.mem_of_getElem? (i := 835) (by decide +kernel)) rfl
theorem wf_X7_38 : Cond.fieldLink RX7 38 (TX7 27).1 (TX7 27).2.1 (TX7 27).2.2.1 ∈ gx_ws := gx_in (List.mem_of_getElem? (i := 836) (by decide +kernel)) rfl
theorem wf_X7_41 : Cond.fieldLink RX7 41 (TX7 29).1 (TX7 29).2.1 (TX7 29).2.2.1 ∈ gx_ws := gx_in (List.mem_of_getElem? (i := 838) (by decide +kernel)) rfl
theorem wf_X7_50 : Cond.fieldLink RX7 50 (TX7 5).1 (TX7 5).2.1 (TX7 5).2.2.1 ∈ gx_ws := gx_in (List.mem_of_getElem? (i := 814) (by decide +kernel)) rfl
theorem wf_X7_54 : Cond.fieldLink RX7 54 (TX7 6).1 (TX7 6).2.1 (TX7 6).2.2.1 ∈ gx_ws := gx_in (List.mem_of_getElem? (i := 815) (by decide +kernel)) rfl
theorem wf_X7_57 : Cond.fieldLink RX7 57 (TX7 7).1 (TX7 7).2.1 (TX7 7).2.2.1 ∈ gx_ws := gx_in (List.mem_of_getElem? (i := 816) (by decide +kernel)) rfl
theorem wf_X7_61 : Cond.fieldLink RX7 61 (TX7 8).1 (TX7 8).2.1 (TX7 8).2.2.1 ∈ gx_ws := gx_in (List.mem_of_getElem? (i := 817) (by decide +kernel)) rfl
theorem wf_X7_64 : Cond.fieldLink RX7 64 (TX7 9).1 (TX7 9).2.1 (TX7 9).2.2.1 ∈ gx_ws := gx_in (List.mem_of_getElem? (i := 818) (by decide +kernel)) rfl
theorem wf_X7_67 : Cond.fieldLink RX7 67 (TX7 3).1 (TX7 3).2.1 (TX7 3).2.2.1 ∈ gx_ws := gx_in (List.mem_of_getElem? (i := 812) (by decide +kernel)) rfl
theorem wf_X7_76 : Cond.fieldLink RX7 76 (TX7 11).1 (TX7 11).2.1 (TX7 11).2.2.1 ∈ gx_ws := gx_in (List.mem_of_getElem? (i := 820) (by decide +kernel)) rfl
theorem wf_X7_79 : Cond.fieldLink RX7 79 (TX7 16).1 (TX7 16).2.1 (TX7 16).2.2.1 ∈ gx_ws := gx_in (List.mem_of_getElem? (i := 825) (by decide +kernel)) rfl
theorem wf_X7_82 : Cond.fieldLink RX7 82 (TX7 13).1 (TX7 13).2.1 (TX7 13).2.2.1 ∈ gx_ws := gx_in (List.mem_of_getElem? (i := 822) (by decide +kernel)) rfl
theorem wf_X7_85 : Cond.fieldLink RX7 85 (TX7 17).1 (TX7 17).2.1 (TX7 17).2.2.1 ∈ gx_ws := gx_in (List.mem_of_getElem? (i := 826) (by decide +kernel)) rfl
theorem wf_X7_88 : Cond.fieldLink RX7 88 (TX7 12).1 (TX7 12).2.1 (TX7 12).2.2.1 ∈ gx_ws := gx_in (List.mem_of_getElem? (i := 821) (by decide +kernel)) rfl
theorem wf_X7_103 : Cond.fieldLink RX7 103 (TX7 14).1 (TX7 14).2.1 (TX7 14).2.2.1 ∈ gx_ws := gx_in (List.mem_of_getElem? (i := 823) (by decide +kernel)) rfl
theorem wf_X7_114 : Cond.fieldLink RX7 114 (TX7 15).1 (TX7 15).2.1 (TX7 15).2.2.1 ∈ gx_ws := gx_in (List.mem_of_getElem? (i := 824) (by decide +kernel)) rfl
theorem wf_X7_249 : Cond.fieldLink RX7 249 (TX7 18).1 (TX7 18).2.1 (TX7 18).2.2.1 ∈ gx_ws := gx_in (List.mem_of_getElem? (i := 827) (by decide +kernel)) rfl
theorem wf_X7_252 : Cond.fieldLink RX7 252 (TX7 19).1 (TX7 19).2.1 (TX7 19).2.2.1 ∈ gx_ws := gx_in (List.mem_of_getElem? (i := 828) (by decide +kernel)) rfl
theorem wf_X7_272 : Cond.fieldLink RX7 272 (TX7 20).1 (TX7 20).2.1 (TX7 20).2.2.1 ∈ gx_ws := gx_in (List.mem_of_getElem? (i := 829) (by decide +kernel)) rfl
theorem wf_X7_276 : Cond.fieldLink RX7 276 (TX7 21).1 (TX7 21).2.1 (TX7 21).2.2.1 ∈ gx_ws := gx_in (List.mem_of_getElem? (i := 830) (by decide +kernel)) rfl
theorem wf_X7_279 : Cond.fieldLink RX7 279 (TX7 22).1 (TX7 22).2.1 (TX7 22).2.2.1 ∈ gx_ws := gx_in (List.mem_of_getElem? (i := 831) (by decide +kernel)) rfl
theorem wf_X7_315 : Cond.fieldLink RX7 315 (TX7 28).1 (TX7 28).2.1 (TX7 28).2.2.1 ∈ gx_ws := gx_in (List.mem_of_getElem? (i := 837) (by decide +kernel)) rfl
theorem wm_X7_1 : Cond.methodLink RX7 1 objectInit ∈ gx_ws := gx_in (List.mem_of_getElem? (i := 800) (by decide +kernel)) rfl
theorem wm_X7_72 : Cond.methodLink RX7 72 yX7_in ∈ gx_ws := gx_in (List.mem_of_getElem? (i := 906) (by decide +kernel)) rfl
theorem wm_X7_163 : Cond.methodLink RX7 163 yX7_apart ∈ gx_ws := gx_in (List.mem_of_getElem? (i := 1020) (by decide +kernel)) rfl
theorem wm_X7_166 : Cond.methodLink RX7 166 yX7_lesser ∈ gx_ws := gx_in (List.mem_of_getElem? (i := 1106) (by decide +kernel)) rfl
theorem wm_X7_194 : Cond.methodLink RX7 194 yX7_flag ∈ gx_ws := gx_in (List.mem_of_getElem? (i := 997) (by decide +kernel)) rfl
theorem wm_X7_213 : Cond.methodLink RX7 213 yX7_isDoor ∈ gx_ws := gx_in (List.mem_of_getElem? (i := 1031) (by decide +kernel)) rfl
theorem wm_X7_216 : Cond.methodLink RX7 216 yX7_isPart ∈ gx_ws := gx_in (List.mem_of_getElem? (i := 1035) (by decide +kernel)) rfl
theorem wm_X7_244 : Cond.methodLink RX7 244 yX7_isFar ∈ gx_ws := gx_in (List.mem_of_getElem? (i := 1125) (by decide +kernel)) rfl
theorem wm_X7_268 : Cond.methodLink RX7 268 yX7_common ∈ gx_ws := gx_in (List.mem_of_getElem? (i := 1200) (by decide +kernel)) rfl
theorem wm_X7_291 : Cond.methodLink RX7 291 yX7_told ∈ gx_ws := gx_in (List.mem_of_getElem? (i := 1197) (by decide +kernel)) rfl
theorem wm_X7_308 : Cond.methodLink RX7 308 yX7_isSheet ∈ gx_ws := gx_in (List.mem_of_getElem? (i := 1256) (by decide +kernel)) rfl
theorem wm_X7_44 : Cond.methodLink RX7 44 yX7_firstDraft ∈ gx_ws := gx_in (List.mem_of_getElem? (i := 801) (by decide +kernel)) rfl
theorem wm_X7_47 : Cond.methodLink RX7 47 yX7_keepDraft ∈ gx_ws := gx_in (List.mem_of_getElem? (i := 805) (by decide +kernel)) rfl
theorem wm_X7_91 : Cond.methodLink RX7 91 yX7_byteAt ∈ gx_ws := gx_in (List.mem_of_getElem? (i := 921) (by decide +kernel)) rfl
theorem wm_X7_95 : Cond.methodLink RX7 95 yX7_is ∈ gx_ws := gx_in (List.mem_of_getElem? (i := 941) (by decide +kernel)) rfl
theorem wm_X7_99 : Cond.methodLink RX7 99 yX7_endsIn ∈ gx_ws := gx_in (List.mem_of_getElem? (i := 945) (by decide +kernel)) rfl
theorem wm_X7_117 : Cond.methodLink RX7 117 yX7_requires ∈ gx_ws := gx_in (List.mem_of_getElem? (i := 929) (by decide +kernel)) rfl
theorem wm_X7_121 : Cond.methodLink RX7 121 yX7_looked ∈ gx_ws := gx_in (List.mem_of_getElem? (i := 965) (by decide +kernel)) rfl
theorem wm_X7_125 : Cond.methodLink RX7 125 yX7_reads ∈ gx_ws := gx_in (List.mem_of_getElem? (i := 917) (by decide +kernel)) rfl
theorem wm_X7_128 : Cond.methodLink RX7 128 yX7_readNumber ∈ gx_ws := gx_in (List.mem_of_getElem? (i := 961) (by decide +kernel)) rfl
theorem wm_X7_131 : Cond.methodLink RX7 131 yX7_readFames ∈ gx_ws := gx_in (List.mem_of_getElem? (i := 957) (by decide +kernel)) rfl
theorem wm_X7_134 : Cond.methodLink RX7 134 yX7_readRoute ∈ gx_ws := gx_in (List.mem_of_getElem? (i := 969) (by decide +kernel)) rfl
theorem wm_X7_137 : Cond.methodLink RX7 137 yX7_lineNow ∈ gx_ws := gx_in (List.mem_of_getElem? (i := 937) (by decide +kernel)) rfl
theorem wm_X7_141 : Cond.methodLink RX7 141 yX7_wasTold ∈ gx_ws := gx_in (List.mem_of_getElem? (i := 949) (by decide +kernel)) rfl
theorem wm_X7_145 : Cond.methodLink RX7 145 yX7_readLineOf ∈ gx_ws := gx_in (List.mem_of_getElem? (i := 953) (by decide +kernel)) rfl
theorem wm_X7_149 : Cond.methodLink RX7 149 yX7_readLine ∈ gx_ws := gx_in (List.mem_of_getElem? (i := 933) (by decide +kernel)) rfl
theorem wm_X7_154 : Cond.methodLink RX7 154 yX7_of ∈ gx_ws := gx_in (List.mem_of_getElem? (i := 993) (by decide +kernel)) rfl
theorem wm_X7_157 : Cond.methodLink RX7 157 yX7_isPaired ∈ gx_ws := gx_in (List.mem_of_getElem? (i := 989) (by decide +kernel)) rfl
theorem wm_X7_160 : Cond.methodLink RX7 160 yX7_doorOf ∈ gx_ws := gx_in (List.mem_of_getElem? (i := 1016) (by decide +kernel)) rfl
theorem wm_X7_169 : Cond.methodLink RX7 169 yX7_becomesOf ∈ gx_ws := gx_in (List.mem_of_getElem? (i := 1109) (by decide +kernel)) rfl
theorem wm_X7_173 : Cond.methodLink RX7 173 yX7_isCold ∈ gx_ws := gx_in (List.mem_of_getElem? (i := 1004) (by decide +kernel)) rfl
theorem wm_X7_176 : Cond.methodLink RX7 176 yX7_stepOf ∈ gx_ws := gx_in (List.mem_of_getElem? (i := 1023) (by decide +kernel)) rfl
theorem wm_X7_179 : Cond.methodLink RX7 179 yX7_gloveGoes ∈ gx_ws := gx_in (List.mem_of_getElem? (i := 1102) (by decide +kernel)) rfl
theorem wm_X7_182 : Cond.methodLink RX7 182 yX7_nextDoor ∈ gx_ws := gx_in (List.mem_of_getElem? (i := 1094) (by decide +kernel)) rfl
theorem wm_X7_185 : Cond.methodLink RX7 185 yX7_dayGoesAt ∈ gx_ws := gx_in (List.mem_of_getElem? (i := 1098) (by decide +kernel)) rfl
theorem wm_X7_188 : Cond.methodLink RX7 188 yX7_daysGo ∈ gx_ws := gx_in (List.mem_of_getElem? (i := 1090) (by decide +kernel)) rfl
theorem wm_X7_191 : Cond.methodLink RX7 191 yX7_nameMore ∈ gx_ws := gx_in (List.mem_of_getElem? (i := 1113) (by decide +kernel)) rfl
theorem wm_X7_198 : Cond.methodLink RX7 198 yX7_metMany ∈ gx_ws := gx_in (List.mem_of_getElem? (i := 1150) (by decide +kernel)) rfl
theorem wm_X7_201 : Cond.methodLink RX7 201 yX7_starts ∈ gx_ws := gx_in (List.mem_of_getElem? (i := 981) (by decide +kernel)) rfl
theorem wm_X7_204 : Cond.methodLink RX7 204 yX7_pairedNow ∈ gx_ws := gx_in (List.mem_of_getElem? (i := 985) (by decide +kernel)) rfl
theorem wm_X7_207 : Cond.methodLink RX7 207 yX7_coldNow ∈ gx_ws := gx_in (List.mem_of_getElem? (i := 1000) (by decide +kernel)) rfl
theorem wm_X7_210 : Cond.methodLink RX7 210 yX7_isGlove ∈ gx_ws := gx_in (List.mem_of_getElem? (i := 1012) (by decide +kernel)) rfl
theorem wm_X7_219 : Cond.methodLink RX7 219 yX7_isCall ∈ gx_ws := gx_in (List.mem_of_getElem? (i := 1042) (by decide +kernel)) rfl
theorem wm_X7_226 : Cond.methodLink RX7 226 yX7_wasPaired ∈ gx_ws := gx_in (List.mem_of_getElem? (i := 1052) (by decide +kernel)) rfl
theorem wm_X7_229 : Cond.methodLink RX7 229 yX7_becomes ∈ gx_ws := gx_in (List.mem_of_getElem? (i := 1056) (by decide +kernel)) rfl
theorem wm_X7_236 : Cond.methodLink RX7 236 yX7_nameBehind ∈ gx_ws := gx_in (List.mem_of_getElem? (i := 1086) (by decide +kernel)) rfl
theorem wm_X7_239 : Cond.methodLink RX7 239 yX7_settles ∈ gx_ws := gx_in (List.mem_of_getElem? (i := 1117) (by decide +kernel)) rfl
theorem wm_X7_255 : Cond.methodLink RX7 255 yX7_startsJudging ∈ gx_ws := gx_in (List.mem_of_getElem? (i := 1142) (by decide +kernel)) rfl
theorem wm_X7_258 : Cond.methodLink RX7 258 yX7_metBehind ∈ gx_ws := gx_in (List.mem_of_getElem? (i := 1146) (by decide +kernel)) rfl
theorem wm_X7_261 : Cond.methodLink RX7 261 yX7_judges ∈ gx_ws := gx_in (List.mem_of_getElem? (i := 1154) (by decide +kernel)) rfl
theorem wm_X7_265 : Cond.methodLink RX7 265 yX7_judged ∈ gx_ws := gx_in (List.mem_of_getElem? (i := 1158) (by decide +kernel)) rfl
theorem wm_X7_288 : Cond.methodLink RX7 288 yX7_findOdds ∈ gx_ws := gx_in (List.mem_of_getElem? (i := 1193) (by decide +kernel)) rfl
theorem wm_X7_295 : Cond.methodLink RX7 295 yX7_isSoWith ∈ gx_ws := gx_in (List.mem_of_getElem? (i := 1223) (by decide +kernel)) rfl
theorem wm_X7_299 : Cond.methodLink RX7 299 yX7_which ∈ gx_ws := gx_in (List.mem_of_getElem? (i := 1219) (by decide +kernel)) rfl
theorem wm_X7_303 : Cond.methodLink RX7 303 yX7_copies ∈ gx_ws := gx_in (List.mem_of_getElem? (i := 1244) (by decide +kernel)) rfl
theorem wm_X7_311 : Cond.methodLink RX7 311 yX7_alter ∈ gx_ws := gx_in (List.mem_of_getElem? (i := 1268) (by decide +kernel)) rfl
theorem wd_X7_70 : Cond.constantLong RX7 70 (127) ∈ gx_ws := gx_in (List.mem_of_getElem? (i := 905) (by decide +kernel)) rfl
theorem wd_X7_106 : Cond.constantLong RX7 106 (97) ∈ gx_ws := gx_in (List.mem_of_getElem? (i := 925) (by decide +kernel)) rfl
theorem wd_X7_108 : Cond.constantLong RX7 108 (122) ∈ gx_ws := gx_in (List.mem_of_getElem? (i := 926) (by decide +kernel)) rfl
theorem wd_X7_110 : Cond.constantLong RX7 110 (48) ∈ gx_ws := gx_in (List.mem_of_getElem? (i := 927) (by decide +kernel)) rfl
theorem wd_X7_112 : Cond.constantLong RX7 112 (57) ∈ gx_ws := gx_in (List.mem_of_getElem? (i := 928) (by decide +kernel)) rfl
theorem wd_X7_152 : Cond.constantLong RX7 152 (11) ∈ gx_ws := gx_in (List.mem_of_getElem? (i := 1034) (by decide +kernel)) rfl
theorem wd_X7_222 : Cond.constantLong RX7 222 (3) ∈ gx_ws := gx_in (List.mem_of_getElem? (i := 1050) (by decide +kernel)) rfl
theorem wd_X7_224 : Cond.constantLong RX7 224 (20) ∈ gx_ws := gx_in (List.mem_of_getElem? (i := 1051) (by decide +kernel)) rfl
theorem wd_X7_232 : Cond.constantLong RX7 232 (9) ∈ gx_ws := gx_in (List.mem_of_getElem? (i := 1064) (by decide +kernel)) rfl
theorem wd_X7_234 : Cond.constantLong RX7 234 (30) ∈ gx_ws := gx_in (List.mem_of_getElem? (i := 1085) (by decide +kernel)) rfl
theorem wd_X7_242 : Cond.constantLong RX7 242 (60) ∈ gx_ws := gx_in (List.mem_of_getElem? (i := 1128) (by decide +kernel)) rfl
theorem wd_X7_247 : Cond.constantLong RX7 247 (4) ∈ gx_ws := gx_in (List.mem_of_getElem? (i := 1129) (by decide +kernel)) rfl
theorem wd_X7_282 : Cond.constantLong RX7 282 (10) ∈ gx_ws := gx_in (List.mem_of_getElem? (i := 1190) (by decide +kernel)) rfl
theorem wd_X7_284 : Cond.constantLong RX7 284 (8) ∈ gx_ws := gx_in (List.mem_of_getElem? (i := 1191) (by decide +kernel)) rfl
theorem wd_X7_286 : Cond.constantLong RX7 286 (-1) ∈ gx_ws := gx_in (List.mem_of_getElem? (i := 1192) (by decide +kernel)) rfl
theorem wd_X7_306 : Cond.constantLong RX7 306 (2) ∈ gx_ws := gx_in (List.mem_of_getElem? (i := 1259) (by decide +kernel)) rfl
theorem wd_X7_302 : Cond.constant RX7 302 (1103515245) ∈ gx_ws := gx_in (List.mem_of_getElem? (i := 1239) (by decide +kernel)) rfl
theorem wd_J6_265 : Cond.constant RJ6 265 (1431655765) ∈ gx_ws := gx_in (List.mem_of_getElem? (i := 610) (by decide +kernel)) rfl
theorem wd_J6_266 : Cond.constant RJ6 266 (858993459) ∈ gx_ws := gx_in (List.mem_of_getElem? (i := 611) (by decide +kernel)) rfl
theorem wd_J6_267 : Cond.constant RJ6 267 (252645135) ∈ gx_ws := gx_in (List.mem_of_getElem? (i := 612) (by decide +kernel)) rfl
theorem wf_J0_9 : Cond.fieldLink RJ0 9 "java/lang/String" "value" "[B" ∈ gx_ws := gx_in (List.mem_of_getElem? (i := 1277) (by decide +kernel)) rfl
theorem wf_J0_15 : Cond.fieldLink RJ0 15 "java/lang/String" "coder" "B" ∈ gx_ws := gx_in (List.mem_of_getElem? (i := 1278) (by decide +kernel)) rfl
theorem wf_J0_38 : Cond.fieldLink RJ0 38 "java/lang/String" "COMPACT_STRINGS" "Z" ∈ gx_ws := gx_in (List.mem_of_getElem? (i := 386) (by decide +kernel)) rfl
theorem wf_J0_1053 : Cond.fieldLink RJ0 1053 "jdk/internal/util/Preconditions" "SIOOBE_FORMATTER" "Ljava/util/function/BiFunction;" ∈ gx_ws := gx_in (List.mem_of_getElem? (i := 402) (by decide +kernel)) rfl
theorem wm_J0_495 : Cond.methodLink RJ0 495 yJ1_charAt_3b067 ∈ gx_ws := gx_in (List.mem_of_getElem? (i := 396) (by decide +kernel)) rfl
theorem wm_J0_498 : Cond.methodLink RJ0 498 yJ2_charAt_3b067 ∈ gx_ws := gx_in (List.mem_of_getElem? (i := 407) (by decide +kernel)) rfl
theorem wm_J0_1059 : Cond.methodLink RJ0 1059 yJ3_checkIndex_8e157 ∈ gx_ws := gx_in (List.mem_of_getElem? (i := 404) (by decide +kernel)) rfl
theorem wm_J0_335 : Cond.methodLink RJ0 335 yJ0_coder_7d493 ∈ gx_ws := gx_in (List.mem_of_getElem? (i := 382) (by decide +kernel)) rfl
theorem wm_J0_492 : Cond.methodLink RJ0 492 yJ0_isLatin1_aae02 ∈ gx_ws := gx_in (List.mem_of_getElem? (i := 392) (by decide +kernel)) rfl
theorem wm_J1_9 : Cond.methodLink RJ1 9 yJ0_checkIndex_df160 ∈ gx_ws := gx_in (List.mem_of_getElem? (i := 399) (by decide +kernel)) rfl
theorem wf_J2_44 : Cond.fieldLink RJ2 44 "java/lang/StringUTF16" "$assertionsDisabled" "Z" ∈ gx_ws := gx_in (List.mem_of_getElem? (i := 420) (by decide +kernel)) rfl
theorem wf_J2_59 : Cond.fieldLink RJ2 59 "java/lang/StringUTF16" "HI_BYTE_SHIFT" "I" ∈ gx_ws := gx_in (List.mem_of_getElem? (i := 422) (by decide +kernel)) rfl
theorem wf_J2_63 : Cond.fieldLink RJ2 63 "java/lang/StringUTF16" "LO_BYTE_SHIFT" "I" ∈ gx_ws := gx_in (List.mem_of_getElem? (i := 424) (by decide +kernel)) rfl
theorem wm_J2_48 : Cond.methodLink RJ2 48 yJ2_length_9d52b ∈ gx_ws := gx_in (List.mem_of_getElem? (i := 413) (by decide +kernel)) rfl
theorem wm_J2_67 : Cond.methodLink RJ2 67 yJ2_checkIndex_2214a ∈ gx_ws := gx_in (List.mem_of_getElem? (i := 410) (by decide +kernel)) rfl
theorem wm_J2_71 : Cond.methodLink RJ2 71 yJ2_getChar_3b067 ∈ gx_ws := gx_in (List.mem_of_getElem? (i := 417) (by decide +kernel)) rfl
theorem wm_J2_414 : Cond.methodLink RJ2 414 yJ0_checkIndex_df160 ∈ gx_ws := gx_in (List.mem_of_getElem? (i := 416) (by decide +kernel)) rfl
theorem wI_X6 : Cond.initialized RX6 ∈ gx_ws := gx_in (List.mem_of_getElem? (i := 72) (by decide +kernel)) rfl
theorem wI_X0 : Cond.initialized RX0 ∈ gx_ws := gx_in (List.mem_of_getElem? (i := 77) (by decide +kernel)) rfl
theorem wI_X1 : Cond.initialized RX1 ∈ gx_ws := gx_in (List.mem_of_getElem? (i := 78) (by decide +kernel)) rfl
theorem wI_X2 : Cond.initialized RX2 ∈ gx_ws := gx_in (List.mem_of_getElem? (i := 74) (by decide +kernel)) rfl
theorem wI_X3 : Cond.initialized RX3 ∈ gx_ws := gx_in (List.mem_of_getElem? (i := 76) (by decide +kernel)) rfl
theorem wI_X4 : Cond.initialized RX4 ∈ gx_ws := gx_in (List.mem_of_getElem? (i := 75) (by decide +kernel)) rfl
theorem wI_X5 : Cond.initialized RX5 ∈ gx_ws := gx_in (List.mem_of_getElem? (i := 73) (by decide +kernel)) rfl
theorem wI_L : Cond.initialized RL ∈ gx_ws := gx_in (List.mem_of_getElem? (i := 71) (by decide +kernel)) rfl
theorem wI_X7 : Cond.initialized RX7 ∈ gx_ws := gx_in (List.mem_of_getElem? (i := 79) (by decide +kernel)) rfl
theorem wI_J6 : Cond.initialized RJ6 ∈ gx_ws := gx_in (List.mem_of_getElem? (i := 87) (by decide +kernel)) rfl
theorem wI_J9 : Cond.initialized RJ9 ∈ gx_ws := gx_in (List.mem_of_getElem? (i := 86) (by decide +kernel)) rfl
theorem wI_J0 : Cond.initialized RJ0 ∈ gx_ws := gx_in (List.mem_of_getElem? (i := 81) (by decide +kernel)) rfl
theorem wI_J1 : Cond.initialized RJ1 ∈ gx_ws := gx_in (List.mem_of_getElem? (i := 82) (by decide +kernel)) rfl
theorem wI_J2 : Cond.initialized RJ2 ∈ gx_ws := gx_in (List.mem_of_getElem? (i := 84) (by decide +kernel)) rfl
theorem wI_J10 : Cond.initialized RJ10 ∈ gx_ws := gx_in (List.mem_of_getElem? (i := 85) (by decide +kernel)) rfl
theorem wI_J7 : Cond.initialized RJ7 ∈ gx_ws := gx_in (List.mem_of_getElem? (i := 80) (by decide +kernel)) rfl
theorem wI_J3 : Cond.initialized RJ3 ∈ gx_ws := gx_in (List.mem_of_getElem? (i := 83) (by decide +kernel)) rfl
theorem wN_X0 : Cond.instantiable RX0 3 ∈ gx_ws := gx_in (List.mem_of_getElem? (i := 242) (by decide +kernel)) rfl
theorem wN_X1 : Cond.instantiable RX1 3 ∈ gx_ws := gx_in (List.mem_of_getElem? (i := 263) (by decide +kernel)) rfl
theorem wN_X2 : Cond.instantiable RX2 4 ∈ gx_ws := gx_in (List.mem_of_getElem? (i := 157) (by decide +kernel)) rfl
theorem wN_X3 : Cond.instantiable RX3 2 ∈ gx_ws := gx_in (List.mem_of_getElem? (i := 184) (by decide +kernel)) rfl
theorem wN_X4 : Cond.instantiable RX4 10 ∈ gx_ws := gx_in (List.mem_of_getElem? (i := 178) (by decide +kernel)) rfl
theorem wN_X5 : Cond.instantiable RX5 11 ∈ gx_ws := gx_in (List.mem_of_getElem? (i := 97) (by decide +kernel)) rfl
theorem wN_X6 : Cond.instantiable RX6 9 ∈ gx_ws := gx_in (List.mem_of_getElem? (i := 89) (by decide +kernel)) rfl
theorem wN_X7 : Cond.instantiable RX7 30 ∈ gx_ws := gx_in (List.mem_of_getElem? (i := 796) (by decide +kernel)) rfl
theorem wo_1 : Cond.instanceMethod objectInit ∈ gx_ws := gx_in (List.mem_of_getElem? (i := 94) (by decide +kernel)) rfl
theorem wo_2 : Cond.code objectInit ⟨#[0xb1]⟩ 1 none ∈ gx_ws := gx_in (List.mem_of_getElem? (i := 95) (by decide +kernel)) rfl
theorem wa_int : Cond.arrayClass .int ∈ gx_ws := gx_in (List.mem_of_getElem? (i := 155) (by decide +kernel)) rfl
theorem wa_byte : Cond.arrayClass .byte ∈ gx_ws := gx_in (List.mem_of_getElem? (i := 199) (by decide +kernel)) rfl
theorem wnat : Cond.native arraycopyName ∈ gx_ws := gx_in (List.mem_of_getElem? (i := 456) (by decide +kernel)) rfl
theorem wa_boolean : Cond.arrayClass .boolean ∈ gx_ws := gx_in (List.mem_of_getElem? (i := 900) (by decide +kernel)) rfl
theorem wsac : Cond.static arraycopyName ∈ gx_ws := gx_in (List.mem_of_getElem? (i := 455) (by decide +kernel)) rfl
theorem wC_X0_init : Cond.code yX0_init cX0_init 1 none ∈ gx_ws := gx_in (List.mem_of_getElem? (i := 245) (by decide +kernel)) rfl
theorem wS_X0_init : gx_St yX0_init mX0_init 0 := ⟨wC_X0_init, wI_X0, ⟨by decide +kernel, by decide +kernel, by decide +kernel⟩, by decide⟩
theorem wM_X0_init : Cond.instanceMethod yX0_init ∈ gx_ws := gx_in (List.mem_of_getElem? (i := 244) (by decide +kernel)) rfl
theorem wC_X1_init : Cond.code yX1_init cX1_init 1 none ∈ gx_ws := gx_in (List.mem_of_getElem? (i := 266) (by decide +kernel)) rfl
theorem wS_X1_init : gx_St yX1_init mX1_init 0 := ⟨wC_X1_init, wI_X1, ⟨by decide +kernel, by decide +kernel, by decide +kernel⟩, by decide⟩
theorem wM_X1_init : Cond.instanceMethod yX1_init ∈ gx_ws := gx_in (List.mem_of_getElem? (i := 265) (by decide +kernel)) rfl
theorem wC_X1_makeNew : Cond.code yX1_makeNew cX1_makeNew 3 none ∈ gx_ws := gx_in (List.mem_of_getElem? (i := 751) (by decide +kernel)) rfl
theorem wS_X1_makeNew : gx_St yX1_makeNew mX1_makeNew 2 := ⟨wC_X1_makeNew, wI_X1, ⟨by decide +kernel, by decide +kernel, by decide +kernel⟩, by decide⟩
theorem wM_X1_makeNew : Cond.instanceMethod yX1_makeNew ∈ gx_ws := gx_in (List.mem_of_getElem? (i := 749) (by decide +kernel)) rfl
theorem wV_X1_makeNew : Cond.selects RX1 yX1_makeNew yX1_makeNew ∈ gx_ws := gx_in (List.mem_of_getElem? (i := 750) (by decide +kernel)) rfl
theorem wC_X1_isNothing : Cond.code yX1_isNothing cX1_isNothing 1 (some .boolean) ∈ gx_ws := gx_in (List.mem_of_getElem? (i := 764) (by decide +kernel)) rfl
theorem wS_X1_isNothing : gx_St yX1_isNothing mX1_isNothing 0 := ⟨wC_X1_isNothing, wI_X1, ⟨by decide +kernel, by decide +kernel, by decide +kernel⟩, by decide⟩
theorem wM_X1_isNothing : Cond.instanceMethod yX1_isNothing ∈ gx_ws := gx_in (List.mem_of_getElem? (i := 762) (by decide +kernel)) rfl
theorem wV_X1_isNothing : Cond.selects RX1 yX1_isNothing yX1_isNothing ∈ gx_ws := gx_in (List.mem_of_getElem? (i := 763) (by decide +kernel)) rfl
theorem wC_X1_faultAt : Cond.code yX1_faultAt cX1_faultAt 2 (some .int) ∈ gx_ws := gx_in (List.mem_of_getElem? (i := 760) (by decide +kernel)) rfl
theorem wS_X1_faultAt : gx_St yX1_faultAt mX1_faultAt 1 := ⟨wC_X1_faultAt, wI_X1, ⟨by decide +kernel, by decide +kernel, by decide +kernel⟩, by decide⟩
theorem wM_X1_faultAt : Cond.instanceMethod yX1_faultAt ∈ gx_ws := gx_in (List.mem_of_getElem? (i := 758) (by decide +kernel)) rfl
theorem wV_X1_faultAt : Cond.selects RX1 yX1_faultAt yX1_faultAt ∈ gx_ws := gx_in (List.mem_of_getElem? (i := 759) (by decide +kernel)) rfl
theorem wC_X1_faultAtPair : Cond.code yX1_faultAtPair cX1_faultAtPair 4 (some .int) ∈ gx_ws := gx_in (List.mem_of_getElem? (i := 777) (by decide +kernel)) rfl
theorem wS_X1_faultAtPair : gx_St yX1_faultAtPair mX1_faultAtPair 2 := ⟨wC_X1_faultAtPair, wI_X1, ⟨by decide +kernel, by decide +kernel, by decide +kernel⟩, by decide⟩
theorem wM_X1_faultAtPair : Cond.instanceMethod yX1_faultAtPair ∈ gx_ws := gx_in (List.mem_of_getElem? (i := 775) (by decide +kernel)) rfl
theorem wV_X1_faultAtPair : Cond.selects RX1 yX1_faultAtPair yX1_faultAtPair ∈ gx_ws := gx_in (List.mem_of_getElem? (i := 776) (by decide +kernel)) rfl
theorem wC_X1_lowestBits : Cond.code yX1_lowestBits cX1_lowestBits 2 (some .int) ∈ gx_ws := gx_in (List.mem_of_getElem? (i := 769) (by decide +kernel)) rfl
theorem wS_X1_lowestBits : gx_St yX1_lowestBits mX1_lowestBits 1 := ⟨wC_X1_lowestBits, wI_X1, ⟨by decide +kernel, by decide +kernel, by decide +kernel⟩, by decide⟩
theorem wM_X1_lowestBits : Cond.instanceMethod yX1_lowestBits ∈ gx_ws := gx_in (List.mem_of_getElem? (i := 767) (by decide +kernel)) rfl
theorem wV_X1_lowestBits : Cond.selects RX1 yX1_lowestBits yX1_lowestBits ∈ gx_ws := gx_in (List.mem_of_getElem? (i := 768) (by decide +kernel)) rfl
theorem wC_X2_init : Cond.code yX2_init cX2_init 1 none ∈ gx_ws := gx_in (List.mem_of_getElem? (i := 160) (by decide +kernel)) rfl
theorem wS_X2_init : gx_St yX2_init mX2_init 0 := ⟨wC_X2_init, wI_X2, ⟨by decide +kernel, by decide +kernel, by decide +kernel⟩, by decide⟩
theorem wM_X2_init : Cond.instanceMethod yX2_init ∈ gx_ws := gx_in (List.mem_of_getElem? (i := 159) (by decide +kernel)) rfl
theorem wC_X2_become : Cond.code yX2_become cX2_become 2 none ∈ gx_ws := gx_in (List.mem_of_getElem? (i := 735) (by decide +kernel)) rfl
theorem wS_X2_become : gx_St yX2_become mX2_become 1 := ⟨wC_X2_become, wI_X2, ⟨by decide +kernel, by decide +kernel, by decide +kernel⟩, by decide⟩
theorem wM_X2_become : Cond.instanceMethod yX2_become ∈ gx_ws := gx_in (List.mem_of_getElem? (i := 733) (by decide +kernel)) rfl
theorem wV_X2_become : Cond.selects RX2 yX2_become yX2_become ∈ gx_ws := gx_in (List.mem_of_getElem? (i := 734) (by decide +kernel)) rfl
theorem wC_X2_add : Cond.code yX2_add cX2_add 4 none ∈ gx_ws := gx_in (List.mem_of_getElem? (i := 684) (by decide +kernel)) rfl
theorem wS_X2_add : gx_St yX2_add mX2_add 3 := ⟨wC_X2_add, wI_X2, ⟨by decide +kernel, by decide +kernel, by decide +kernel⟩, by decide⟩
theorem wM_X2_add : Cond.instanceMethod yX2_add ∈ gx_ws := gx_in (List.mem_of_getElem? (i := 682) (by decide +kernel)) rfl
theorem wV_X2_add : Cond.selects RX2 yX2_add yX2_add ∈ gx_ws := gx_in (List.mem_of_getElem? (i := 683) (by decide +kernel)) rfl
theorem wC_X2_lastDay : Cond.code yX2_lastDay cX2_lastDay 3 (some .int) ∈ gx_ws := gx_in (List.mem_of_getElem? (i := 704) (by decide +kernel)) rfl
theorem wS_X2_lastDay : gx_St yX2_lastDay mX2_lastDay 0 := ⟨wC_X2_lastDay, wI_X2, ⟨by decide +kernel, by decide +kernel, by decide +kernel⟩, by decide⟩
theorem wM_X2_lastDay : Cond.instanceMethod yX2_lastDay ∈ gx_ws := gx_in (List.mem_of_getElem? (i := 702) (by decide +kernel)) rfl
theorem wV_X2_lastDay : Cond.selects RX2 yX2_lastDay yX2_lastDay ∈ gx_ws := gx_in (List.mem_of_getElem? (i := 703) (by decide +kernel)) rfl
theorem wC_X2_fits : Cond.code yX2_fits cX2_fits 4 (some .boolean) ∈ gx_ws := gx_in (List.mem_of_getElem? (i := 709) (by decide +kernel)) rfl
theorem wS_X2_fits : gx_St yX2_fits mX2_fits 2 := ⟨wC_X2_fits, wI_X2, ⟨by decide +kernel, by decide +kernel, by decide +kernel⟩, by decide⟩
theorem wM_X2_fits : Cond.instanceMethod yX2_fits ∈ gx_ws := gx_in (List.mem_of_getElem? (i := 707) (by decide +kernel)) rfl
theorem wV_X2_fits : Cond.selects RX2 yX2_fits yX2_fits ∈ gx_ws := gx_in (List.mem_of_getElem? (i := 708) (by decide +kernel)) rfl
theorem wC_X3_init : Cond.code yX3_init cX3_init 1 none ∈ gx_ws := gx_in (List.mem_of_getElem? (i := 187) (by decide +kernel)) rfl
theorem wS_X3_init : gx_St yX3_init mX3_init 0 := ⟨wC_X3_init, wI_X3, ⟨by decide +kernel, by decide +kernel, by decide +kernel⟩, by decide⟩
theorem wM_X3_init : Cond.instanceMethod yX3_init ∈ gx_ws := gx_in (List.mem_of_getElem? (i := 186) (by decide +kernel)) rfl
theorem wC_X4_init : Cond.code yX4_init cX4_init 1 none ∈ gx_ws := gx_in (List.mem_of_getElem? (i := 181) (by decide +kernel)) rfl
theorem wS_X4_init : gx_St yX4_init mX4_init 0 := ⟨wC_X4_init, wI_X4, ⟨by decide +kernel, by decide +kernel, by decide +kernel⟩, by decide⟩
theorem wM_X4_init : Cond.instanceMethod yX4_init ∈ gx_ws := gx_in (List.mem_of_getElem? (i := 180) (by decide +kernel)) rfl
theorem wC_X4_takesAll : Cond.code yX4_takesAll cX4_takesAll 1 (some .boolean) ∈ gx_ws := gx_in (List.mem_of_getElem? (i := 326) (by decide +kernel)) rfl
theorem wS_X4_takesAll : gx_St yX4_takesAll mX4_takesAll 0 := ⟨wC_X4_takesAll, wI_X4, ⟨by decide +kernel, by decide +kernel, by decide +kernel⟩, by decide⟩
theorem wM_X4_takesAll : Cond.instanceMethod yX4_takesAll ∈ gx_ws := gx_in (List.mem_of_getElem? (i := 324) (by decide +kernel)) rfl
theorem wV_X4_takesAll : Cond.selects RX4 yX4_takesAll yX4_takesAll ∈ gx_ws := gx_in (List.mem_of_getElem? (i := 325) (by decide +kernel)) rfl
theorem wC_X4_refuses : Cond.code yX4_refuses cX4_refuses 2 (some .boolean) ∈ gx_ws := gx_in (List.mem_of_getElem? (i := 355) (by decide +kernel)) rfl
theorem wS_X4_refuses : gx_St yX4_refuses mX4_refuses 1 := ⟨wC_X4_refuses, wI_X4, ⟨by decide +kernel, by decide +kernel, by decide +kernel⟩, by decide⟩
theorem wM_X4_refuses : Cond.instanceMethod yX4_refuses ∈ gx_ws := gx_in (List.mem_of_getElem? (i := 354) (by decide +kernel)) rfl
theorem wV_X4_refuses : Cond.selects RX4 yX4_refuses yX4_refuses ∈ gx_ws := gx_in (List.mem_of_getElem? (i := 3) (by decide +kernel)) rfl
theorem wC_X4_takesLine : Cond.code yX4_takesLine cX4_takesLine 2 (some .boolean) ∈ gx_ws := gx_in (List.mem_of_getElem? (i := 359) (by decide +kernel)) rfl
theorem wS_X4_takesLine : gx_St yX4_takesLine mX4_takesLine 0 := ⟨wC_X4_takesLine, wI_X4, ⟨by decide +kernel, by decide +kernel, by decide +kernel⟩, by decide⟩
theorem wM_X4_takesLine : Cond.instanceMethod yX4_takesLine ∈ gx_ws := gx_in (List.mem_of_getElem? (i := 358) (by decide +kernel)) rfl
theorem wV_X4_takesLine : Cond.selects RX4 yX4_takesLine yX4_takesLine ∈ gx_ws := gx_in (List.mem_of_getElem? (i := 4) (by decide +kernel)) rfl
theorem wC_X4_takesGlove : Cond.code yX4_takesGlove cX4_takesGlove 3 (some .boolean) ∈ gx_ws := gx_in (List.mem_of_getElem? (i := 429) (by decide +kernel)) rfl
theorem wS_X4_takesGlove : gx_St yX4_takesGlove mX4_takesGlove 1 := ⟨wC_X4_takesGlove, wI_X4, ⟨by decide +kernel, by decide +kernel, by decide +kernel⟩, by decide⟩
theorem wM_X4_takesGlove : Cond.instanceMethod yX4_takesGlove ∈ gx_ws := gx_in (List.mem_of_getElem? (i := 428) (by decide +kernel)) rfl
theorem wV_X4_takesGlove : Cond.selects RX4 yX4_takesGlove yX4_takesGlove ∈ gx_ws := gx_in (List.mem_of_getElem? (i := 7) (by decide +kernel)) rfl
theorem wC_X4_takesRoute : Cond.code yX4_takesRoute cX4_takesRoute 2 (some .boolean) ∈ gx_ws := gx_in (List.mem_of_getElem? (i := 445) (by decide +kernel)) rfl
theorem wS_X4_takesRoute : gx_St yX4_takesRoute mX4_takesRoute 0 := ⟨wC_X4_takesRoute, wI_X4, ⟨by decide +kernel, by decide +kernel, by decide +kernel⟩, by decide⟩
theorem wM_X4_takesRoute : Cond.instanceMethod yX4_takesRoute ∈ gx_ws := gx_in (List.mem_of_getElem? (i := 444) (by decide +kernel)) rfl
theorem wV_X4_takesRoute : Cond.selects RX4 yX4_takesRoute yX4_takesRoute ∈ gx_ws := gx_in (List.mem_of_getElem? (i := 11) (by decide +kernel)) rfl
theorem wC_X4_takesMan : Cond.code yX4_takesMan cX4_takesMan 1 (some .boolean) ∈ gx_ws := gx_in (List.mem_of_getElem? (i := 449) (by decide +kernel)) rfl
theorem wS_X4_takesMan : gx_St yX4_takesMan mX4_takesMan 0 := ⟨wC_X4_takesMan, wI_X4, ⟨by decide +kernel, by decide +kernel, by decide +kernel⟩, by decide⟩
theorem wM_X4_takesMan : Cond.instanceMethod yX4_takesMan ∈ gx_ws := gx_in (List.mem_of_getElem? (i := 448) (by decide +kernel)) rfl
theorem wV_X4_takesMan : Cond.selects RX4 yX4_takesMan yX4_takesMan ∈ gx_ws := gx_in (List.mem_of_getElem? (i := 12) (by decide +kernel)) rfl
theorem wC_X4_takesRow : Cond.code yX4_takesRow cX4_takesRow 3 (some .boolean) ∈ gx_ws := gx_in (List.mem_of_getElem? (i := 441) (by decide +kernel)) rfl
theorem wS_X4_takesRow : gx_St yX4_takesRow mX4_takesRow 2 := ⟨wC_X4_takesRow, wI_X4, ⟨by decide +kernel, by decide +kernel, by decide +kernel⟩, by decide⟩
theorem wM_X4_takesRow : Cond.instanceMethod yX4_takesRow ∈ gx_ws := gx_in (List.mem_of_getElem? (i := 440) (by decide +kernel)) rfl
theorem wV_X4_takesRow : Cond.selects RX4 yX4_takesRow yX4_takesRow ∈ gx_ws := gx_in (List.mem_of_getElem? (i := 10) (by decide +kernel)) rfl
theorem wC_X4_takesNumber : Cond.code yX4_takesNumber cX4_takesNumber 2 (some .boolean) ∈ gx_ws := gx_in (List.mem_of_getElem? (i := 433) (by decide +kernel)) rfl
theorem wS_X4_takesNumber : gx_St yX4_takesNumber mX4_takesNumber 1 := ⟨wC_X4_takesNumber, wI_X4, ⟨by decide +kernel, by decide +kernel, by decide +kernel⟩, by decide⟩
theorem wM_X4_takesNumber : Cond.instanceMethod yX4_takesNumber ∈ gx_ws := gx_in (List.mem_of_getElem? (i := 432) (by decide +kernel)) rfl
theorem wV_X4_takesNumber : Cond.selects RX4 yX4_takesNumber yX4_takesNumber ∈ gx_ws := gx_in (List.mem_of_getElem? (i := 8) (by decide +kernel)) rfl
theorem wC_X4_takesMark : Cond.code yX4_takesMark cX4_takesMark 1 (some .boolean) ∈ gx_ws := gx_in (List.mem_of_getElem? (i := 437) (by decide +kernel)) rfl
theorem wS_X4_takesMark : gx_St yX4_takesMark mX4_takesMark 0 := ⟨wC_X4_takesMark, wI_X4, ⟨by decide +kernel, by decide +kernel, by decide +kernel⟩, by decide⟩
theorem wM_X4_takesMark : Cond.instanceMethod yX4_takesMark ∈ gx_ws := gx_in (List.mem_of_getElem? (i := 436) (by decide +kernel)) rfl
theorem wV_X4_takesMark : Cond.selects RX4 yX4_takesMark yX4_takesMark ∈ gx_ws := gx_in (List.mem_of_getElem? (i := 9) (by decide +kernel)) rfl
theorem wC_X4_readsToken : Cond.code yX4_readsToken cX4_readsToken 2 (some .boolean) ∈ gx_ws := gx_in (List.mem_of_getElem? (i := 337) (by decide +kernel)) rfl
theorem wS_X4_readsToken : gx_St yX4_readsToken mX4_readsToken 0 := ⟨wC_X4_readsToken, wI_X4, ⟨by decide +kernel, by decide +kernel, by decide +kernel⟩, by decide⟩
theorem wM_X4_readsToken : Cond.instanceMethod yX4_readsToken ∈ gx_ws := gx_in (List.mem_of_getElem? (i := 336) (by decide +kernel)) rfl
theorem wV_X4_readsToken : Cond.selects RX4 yX4_readsToken yX4_readsToken ∈ gx_ws := gx_in (List.mem_of_getElem? (i := 0) (by decide +kernel)) rfl
theorem wC_X4_readsWord : Cond.code yX4_readsWord cX4_readsWord 1 (some .boolean) ∈ gx_ws := gx_in (List.mem_of_getElem? (i := 344) (by decide +kernel)) rfl
theorem wS_X4_readsWord : gx_St yX4_readsWord mX4_readsWord 0 := ⟨wC_X4_readsWord, wI_X4, ⟨by decide +kernel, by decide +kernel, by decide +kernel⟩, by decide⟩
theorem wM_X4_readsWord : Cond.instanceMethod yX4_readsWord ∈ gx_ws := gx_in (List.mem_of_getElem? (i := 343) (by decide +kernel)) rfl
theorem wV_X4_readsWord : Cond.selects RX4 yX4_readsWord yX4_readsWord ∈ gx_ws := gx_in (List.mem_of_getElem? (i := 1) (by decide +kernel)) rfl
theorem wC_X4_readsNumber : Cond.code yX4_readsNumber cX4_readsNumber 1 (some .boolean) ∈ gx_ws := gx_in (List.mem_of_getElem? (i := 351) (by decide +kernel)) rfl
theorem wS_X4_readsNumber : gx_St yX4_readsNumber mX4_readsNumber 0 := ⟨wC_X4_readsNumber, wI_X4, ⟨by decide +kernel, by decide +kernel, by decide +kernel⟩, by decide⟩
theorem wM_X4_readsNumber : Cond.instanceMethod yX4_readsNumber ∈ gx_ws := gx_in (List.mem_of_getElem? (i := 350) (by decide +kernel)) rfl
theorem wV_X4_readsNumber : Cond.selects RX4 yX4_readsNumber yX4_readsNumber ∈ gx_ws := gx_in (List.mem_of_getElem? (i := 2) (by decide +kernel)) rfl
theorem wC_X4_isLetter : Cond.code yX4_isLetter cX4_isLetter 1 (some .boolean) ∈ gx_ws := gx_in (List.mem_of_getElem? (i := 340) (by decide +kernel)) rfl
theorem wS_X4_isLetter : gx_St yX4_isLetter mX4_isLetter 1 := ⟨wC_X4_isLetter, wI_X4, ⟨by decide +kernel, by decide +kernel, by decide +kernel⟩, by decide⟩
theorem wT_X4_isLetter : Cond.static yX4_isLetter ∈ gx_ws := gx_in (List.mem_of_getElem? (i := 339) (by decide +kernel)) rfl
theorem wC_X4_isFigure : Cond.code yX4_isFigure cX4_isFigure 1 (some .boolean) ∈ gx_ws := gx_in (List.mem_of_getElem? (i := 347) (by decide +kernel)) rfl
theorem wS_X4_isFigure : gx_St yX4_isFigure mX4_isFigure 1 := ⟨wC_X4_isFigure, wI_X4, ⟨by decide +kernel, by decide +kernel, by decide +kernel⟩, by decide⟩
theorem wT_X4_isFigure : Cond.static yX4_isFigure ∈ gx_ws := gx_in (List.mem_of_getElem? (i := 346) (by decide +kernel)) rfl
theorem wC_X4_wordRead : Cond.code yX4_wordRead cX4_wordRead 2 (some .int) ∈ gx_ws := gx_in (List.mem_of_getElem? (i := 363) (by decide +kernel)) rfl
theorem wS_X4_wordRead : gx_St yX4_wordRead mX4_wordRead 0 := ⟨wC_X4_wordRead, wI_X4, ⟨by decide +kernel, by decide +kernel, by decide +kernel⟩, by decide⟩
theorem wM_X4_wordRead : Cond.instanceMethod yX4_wordRead ∈ gx_ws := gx_in (List.mem_of_getElem? (i := 362) (by decide +kernel)) rfl
theorem wV_X4_wordRead : Cond.selects RX4 yX4_wordRead yX4_wordRead ∈ gx_ws := gx_in (List.mem_of_getElem? (i := 5) (by decide +kernel)) rfl
theorem wC_X4_isSpelled : Cond.code yX4_isSpelled cX4_isSpelled 3 (some .boolean) ∈ gx_ws := gx_in (List.mem_of_getElem? (i := 377) (by decide +kernel)) rfl
theorem wS_X4_isSpelled : gx_St yX4_isSpelled mX4_isSpelled 1 := ⟨wC_X4_isSpelled, wI_X4, ⟨by decide +kernel, by decide +kernel, by decide +kernel⟩, by decide⟩
theorem wM_X4_isSpelled : Cond.instanceMethod yX4_isSpelled ∈ gx_ws := gx_in (List.mem_of_getElem? (i := 376) (by decide +kernel)) rfl
theorem wV_X4_isSpelled : Cond.selects RX4 yX4_isSpelled yX4_isSpelled ∈ gx_ws := gx_in (List.mem_of_getElem? (i := 6) (by decide +kernel)) rfl
theorem wC_X4_spellingOf : Cond.code yX4_spellingOf cX4_spellingOf 1 (some (.object "java/lang/String")) ∈ gx_ws := gx_in (List.mem_of_getElem? (i := 366) (by decide +kernel)) rfl
theorem wS_X4_spellingOf : gx_St yX4_spellingOf mX4_spellingOf 1 := ⟨wC_X4_spellingOf, wI_X4, ⟨by decide +kernel, by decide +kernel, by decide +kernel⟩, by decide⟩
theorem wT_X4_spellingOf : Cond.static yX4_spellingOf ∈ gx_ws := gx_in (List.mem_of_getElem? (i := 365) (by decide +kernel)) rfl
theorem wC_X5_init : Cond.code yX5_init cX5_init 1 none ∈ gx_ws := gx_in (List.mem_of_getElem? (i := 100) (by decide +kernel)) rfl
theorem wS_X5_init : gx_St yX5_init mX5_init 0 := ⟨wC_X5_init, wI_X5, ⟨by decide +kernel, by decide +kernel, by decide +kernel⟩, by decide⟩
theorem wM_X5_init : Cond.instanceMethod yX5_init ∈ gx_ws := gx_in (List.mem_of_getElem? (i := 99) (by decide +kernel)) rfl
theorem wC_X5_makeEmpty : Cond.code yX5_makeEmpty cX5_makeEmpty 1 none ∈ gx_ws := gx_in (List.mem_of_getElem? (i := 330) (by decide +kernel)) rfl
theorem wS_X5_makeEmpty : gx_St yX5_makeEmpty mX5_makeEmpty 0 := ⟨wC_X5_makeEmpty, wI_X5, ⟨by decide +kernel, by decide +kernel, by decide +kernel⟩, by decide⟩
theorem wM_X5_makeEmpty : Cond.instanceMethod yX5_makeEmpty ∈ gx_ws := gx_in (List.mem_of_getElem? (i := 328) (by decide +kernel)) rfl
theorem wV_X5_makeEmpty : Cond.selects RX5 yX5_makeEmpty yX5_makeEmpty ∈ gx_ws := gx_in (List.mem_of_getElem? (i := 329) (by decide +kernel)) rfl
theorem wC_X5_become : Cond.code yX5_become cX5_become 2 none ∈ gx_ws := gx_in (List.mem_of_getElem? (i := 453) (by decide +kernel)) rfl
theorem wS_X5_become : gx_St yX5_become mX5_become 1 := ⟨wC_X5_become, wI_X5, ⟨by decide +kernel, by decide +kernel, by decide +kernel⟩, by decide⟩
theorem wM_X5_become : Cond.instanceMethod yX5_become ∈ gx_ws := gx_in (List.mem_of_getElem? (i := 451) (by decide +kernel)) rfl
theorem wV_X5_become : Cond.selects RX5 yX5_become yX5_become ∈ gx_ws := gx_in (List.mem_of_getElem? (i := 452) (by decide +kernel)) rfl
theorem wC_X5_partOf : Cond.code yX5_partOf cX5_partOf 3 (some .int) ∈ gx_ws := gx_in (List.mem_of_getElem? (i := 488) (by decide +kernel)) rfl
theorem wS_X5_partOf : gx_St yX5_partOf mX5_partOf 2 := ⟨wC_X5_partOf, wI_X5, ⟨by decide +kernel, by decide +kernel, by decide +kernel⟩, by decide⟩
theorem wM_X5_partOf : Cond.instanceMethod yX5_partOf ∈ gx_ws := gx_in (List.mem_of_getElem? (i := 486) (by decide +kernel)) rfl
theorem wV_X5_partOf : Cond.selects RX5 yX5_partOf yX5_partOf ∈ gx_ws := gx_in (List.mem_of_getElem? (i := 487) (by decide +kernel)) rfl
theorem wC_X5_putPart : Cond.code yX5_putPart cX5_putPart 4 none ∈ gx_ws := gx_in (List.mem_of_getElem? (i := 531) (by decide +kernel)) rfl
theorem wS_X5_putPart : gx_St yX5_putPart mX5_putPart 3 := ⟨wC_X5_putPart, wI_X5, ⟨by decide +kernel, by decide +kernel, by decide +kernel⟩, by decide⟩
theorem wM_X5_putPart : Cond.instanceMethod yX5_putPart ∈ gx_ws := gx_in (List.mem_of_getElem? (i := 529) (by decide +kernel)) rfl
theorem wV_X5_putPart : Cond.selects RX5 yX5_putPart yX5_putPart ∈ gx_ws := gx_in (List.mem_of_getElem? (i := 530) (by decide +kernel)) rfl
theorem wC_X5_isPaired : Cond.code yX5_isPaired cX5_isPaired 2 (some .boolean) ∈ gx_ws := gx_in (List.mem_of_getElem? (i := 476) (by decide +kernel)) rfl
theorem wS_X5_isPaired : gx_St yX5_isPaired mX5_isPaired 1 := ⟨wC_X5_isPaired, wI_X5, ⟨by decide +kernel, by decide +kernel, by decide +kernel⟩, by decide⟩
theorem wM_X5_isPaired : Cond.instanceMethod yX5_isPaired ∈ gx_ws := gx_in (List.mem_of_getElem? (i := 474) (by decide +kernel)) rfl
theorem wV_X5_isPaired : Cond.selects RX5 yX5_isPaired yX5_isPaired ∈ gx_ws := gx_in (List.mem_of_getElem? (i := 475) (by decide +kernel)) rfl
theorem wC_X5_isCold : Cond.code yX5_isCold cX5_isCold 2 (some .boolean) ∈ gx_ws := gx_in (List.mem_of_getElem? (i := 472) (by decide +kernel)) rfl
theorem wS_X5_isCold : gx_St yX5_isCold mX5_isCold 1 := ⟨wC_X5_isCold, wI_X5, ⟨by decide +kernel, by decide +kernel, by decide +kernel⟩, by decide⟩
theorem wM_X5_isCold : Cond.instanceMethod yX5_isCold ∈ gx_ws := gx_in (List.mem_of_getElem? (i := 470) (by decide +kernel)) rfl
theorem wV_X5_isCold : Cond.selects RX5 yX5_isCold yX5_isCold ∈ gx_ws := gx_in (List.mem_of_getElem? (i := 471) (by decide +kernel)) rfl
theorem wC_X5_coldOnes : Cond.code yX5_coldOnes cX5_coldOnes 3 (some .int) ∈ gx_ws := gx_in (List.mem_of_getElem? (i := 468) (by decide +kernel)) rfl
theorem wS_X5_coldOnes : gx_St yX5_coldOnes mX5_coldOnes 0 := ⟨wC_X5_coldOnes, wI_X5, ⟨by decide +kernel, by decide +kernel, by decide +kernel⟩, by decide⟩
theorem wM_X5_coldOnes : Cond.instanceMethod yX5_coldOnes ∈ gx_ws := gx_in (List.mem_of_getElem? (i := 466) (by decide +kernel)) rfl
theorem wV_X5_coldOnes : Cond.selects RX5 yX5_coldOnes yX5_coldOnes ∈ gx_ws := gx_in (List.mem_of_getElem? (i := 467) (by decide +kernel)) rfl
theorem wC_X5_glovesAt : Cond.code yX5_glovesAt cX5_glovesAt 4 (some .int) ∈ gx_ws := gx_in (List.mem_of_getElem? (i := 508) (by decide +kernel)) rfl
theorem wS_X5_glovesAt : gx_St yX5_glovesAt mX5_glovesAt 1 := ⟨wC_X5_glovesAt, wI_X5, ⟨by decide +kernel, by decide +kernel, by decide +kernel⟩, by decide⟩
theorem wM_X5_glovesAt : Cond.instanceMethod yX5_glovesAt ∈ gx_ws := gx_in (List.mem_of_getElem? (i := 506) (by decide +kernel)) rfl
theorem wV_X5_glovesAt : Cond.selects RX5 yX5_glovesAt yX5_glovesAt ∈ gx_ws := gx_in (List.mem_of_getElem? (i := 507) (by decide +kernel)) rfl
theorem wC_X5_metCount : Cond.code yX5_metCount cX5_metCount 1 (some .int) ∈ gx_ws := gx_in (List.mem_of_getElem? (i := 606) (by decide +kernel)) rfl
theorem wS_X5_metCount : gx_St yX5_metCount mX5_metCount 0 := ⟨wC_X5_metCount, wI_X5, ⟨by decide +kernel, by decide +kernel, by decide +kernel⟩, by decide⟩
theorem wM_X5_metCount : Cond.instanceMethod yX5_metCount ∈ gx_ws := gx_in (List.mem_of_getElem? (i := 604) (by decide +kernel)) rfl
theorem wV_X5_metCount : Cond.selects RX5 yX5_metCount yX5_metCount ∈ gx_ws := gx_in (List.mem_of_getElem? (i := 605) (by decide +kernel)) rfl
theorem wC_X5_leaveOutCall : Cond.code yX5_leaveOutCall cX5_leaveOutCall 3 none ∈ gx_ws := gx_in (List.mem_of_getElem? (i := 636) (by decide +kernel)) rfl
theorem wS_X5_leaveOutCall : gx_St yX5_leaveOutCall mX5_leaveOutCall 1 := ⟨wC_X5_leaveOutCall, wI_X5, ⟨by decide +kernel, by decide +kernel, by decide +kernel⟩, by decide⟩
theorem wM_X5_leaveOutCall : Cond.instanceMethod yX5_leaveOutCall ∈ gx_ws := gx_in (List.mem_of_getElem? (i := 634) (by decide +kernel)) rfl
theorem wV_X5_leaveOutCall : Cond.selects RX5 yX5_leaveOutCall yX5_leaveOutCall ∈ gx_ws := gx_in (List.mem_of_getElem? (i := 635) (by decide +kernel)) rfl
theorem wC_X5_stepOf : Cond.code yX5_stepOf cX5_stepOf 4 (some .int) ∈ gx_ws := gx_in (List.mem_of_getElem? (i := 496) (by decide +kernel)) rfl
theorem wS_X5_stepOf : gx_St yX5_stepOf mX5_stepOf 1 := ⟨wC_X5_stepOf, wI_X5, ⟨by decide +kernel, by decide +kernel, by decide +kernel⟩, by decide⟩
theorem wM_X5_stepOf : Cond.instanceMethod yX5_stepOf ∈ gx_ws := gx_in (List.mem_of_getElem? (i := 494) (by decide +kernel)) rfl
theorem wV_X5_stepOf : Cond.selects RX5 yX5_stepOf yX5_stepOf ∈ gx_ws := gx_in (List.mem_of_getElem? (i := 495) (by decide +kernel)) rfl
theorem wC_X5_moveMan : Cond.code yX5_moveMan cX5_moveMan 3 none ∈ gx_ws := gx_in (List.mem_of_getElem? (i := 547) (by decide +kernel)) rfl
theorem wS_X5_moveMan : gx_St yX5_moveMan mX5_moveMan 1 := ⟨wC_X5_moveMan, wI_X5, ⟨by decide +kernel, by decide +kernel, by decide +kernel⟩, by decide⟩
theorem wM_X5_moveMan : Cond.instanceMethod yX5_moveMan ∈ gx_ws := gx_in (List.mem_of_getElem? (i := 545) (by decide +kernel)) rfl
theorem wV_X5_moveMan : Cond.selects RX5 yX5_moveMan yX5_moveMan ∈ gx_ws := gx_in (List.mem_of_getElem? (i := 546) (by decide +kernel)) rfl
theorem wC_X5_passDays : Cond.code yX5_passDays cX5_passDays 3 none ∈ gx_ws := gx_in (List.mem_of_getElem? (i := 563) (by decide +kernel)) rfl
theorem wS_X5_passDays : gx_St yX5_passDays mX5_passDays 1 := ⟨wC_X5_passDays, wI_X5, ⟨by decide +kernel, by decide +kernel, by decide +kernel⟩, by decide⟩
theorem wM_X5_passDays : Cond.instanceMethod yX5_passDays ∈ gx_ws := gx_in (List.mem_of_getElem? (i := 561) (by decide +kernel)) rfl
theorem wV_X5_passDays : Cond.selects RX5 yX5_passDays yX5_passDays ∈ gx_ws := gx_in (List.mem_of_getElem? (i := 562) (by decide +kernel)) rfl
theorem wC_X5_passDay : Cond.code yX5_passDay cX5_passDay 3 none ∈ gx_ws := gx_in (List.mem_of_getElem? (i := 567) (by decide +kernel)) rfl
theorem wS_X5_passDay : gx_St yX5_passDay mX5_passDay 1 := ⟨wC_X5_passDay, wI_X5, ⟨by decide +kernel, by decide +kernel, by decide +kernel⟩, by decide⟩
theorem wM_X5_passDay : Cond.instanceMethod yX5_passDay ∈ gx_ws := gx_in (List.mem_of_getElem? (i := 565) (by decide +kernel)) rfl
theorem wV_X5_passDay : Cond.selects RX5 yX5_passDay yX5_passDay ∈ gx_ws := gx_in (List.mem_of_getElem? (i := 566) (by decide +kernel)) rfl
theorem wC_X5_passDayOfGlove : Cond.code yX5_passDayOfGlove cX5_passDayOfGlove 2 none ∈ gx_ws := gx_in (List.mem_of_getElem? (i := 571) (by decide +kernel)) rfl
theorem wS_X5_passDayOfGlove : gx_St yX5_passDayOfGlove mX5_passDayOfGlove 1 := ⟨wC_X5_passDayOfGlove, wI_X5, ⟨by decide +kernel, by decide +kernel, by decide +kernel⟩, by decide⟩
theorem wM_X5_passDayOfGlove : Cond.instanceMethod yX5_passDayOfGlove ∈ gx_ws := gx_in (List.mem_of_getElem? (i := 570) (by decide +kernel)) rfl
theorem wV_X5_passDayOfGlove : Cond.selects RX5 yX5_passDayOfGlove yX5_passDayOfGlove ∈ gx_ws := gx_in (List.mem_of_getElem? (i := 16) (by decide +kernel)) rfl
theorem wC_X6_init : Cond.code yX6_init cX6_init 2 none ∈ gx_ws := gx_in (List.mem_of_getElem? (i := 92) (by decide +kernel)) rfl
theorem wS_X6_init : gx_St yX6_init mX6_init 0 := ⟨wC_X6_init, wI_X6, ⟨by decide +kernel, by decide +kernel, by decide +kernel⟩, by decide⟩
theorem wM_X6_init : Cond.instanceMethod yX6_init ∈ gx_ws := gx_in (List.mem_of_getElem? (i := 91) (by decide +kernel)) rfl
theorem wC_X6_feed : Cond.code yX6_feed cX6_feed 3 (some .int) ∈ gx_ws := gx_in (List.mem_of_getElem? (i := 311) (by decide +kernel)) rfl
theorem wS_X6_feed : gx_St yX6_feed mX6_feed 1 := ⟨wC_X6_feed, wI_X6, ⟨by decide +kernel, by decide +kernel, by decide +kernel⟩, by decide⟩
theorem wM_X6_feed : Cond.instanceMethod yX6_feed ∈ gx_ws := gx_in (List.mem_of_getElem? (i := 309) (by decide +kernel)) rfl
theorem wV_X6_feed : Cond.selects RX6 yX6_feed yX6_feed ∈ gx_ws := gx_in (List.mem_of_getElem? (i := 310) (by decide +kernel)) rfl
theorem wC_X6_end : Cond.code yX6_end cX6_end 4 (some .int) ∈ gx_ws := gx_in (List.mem_of_getElem? (i := 318) (by decide +kernel)) rfl
theorem wS_X6_end : gx_St yX6_end mX6_end 1 := ⟨wC_X6_end, wI_X6, ⟨by decide +kernel, by decide +kernel, by decide +kernel⟩, by decide⟩
theorem wM_X6_end : Cond.instanceMethod yX6_end ∈ gx_ws := gx_in (List.mem_of_getElem? (i := 316) (by decide +kernel)) rfl
theorem wV_X6_end : Cond.selects RX6 yX6_end yX6_end ∈ gx_ws := gx_in (List.mem_of_getElem? (i := 317) (by decide +kernel)) rfl
theorem wC_X6_text : Cond.code yX6_text cX6_text 3 (some .int) ∈ gx_ws := gx_in (List.mem_of_getElem? (i := 322) (by decide +kernel)) rfl
theorem wS_X6_text : gx_St yX6_text mX6_text 0 := ⟨wC_X6_text, wI_X6, ⟨by decide +kernel, by decide +kernel, by decide +kernel⟩, by decide⟩
theorem wM_X6_text : Cond.instanceMethod yX6_text ∈ gx_ws := gx_in (List.mem_of_getElem? (i := 320) (by decide +kernel)) rfl
theorem wV_X6_text : Cond.selects RX6 yX6_text yX6_text ∈ gx_ws := gx_in (List.mem_of_getElem? (i := 321) (by decide +kernel)) rfl
theorem wC_X6_fault : Cond.code yX6_fault cX6_fault 1 (some .int) ∈ gx_ws := gx_in (List.mem_of_getElem? (i := 460) (by decide +kernel)) rfl
theorem wS_X6_fault : gx_St yX6_fault mX6_fault 0 := ⟨wC_X6_fault, wI_X6, ⟨by decide +kernel, by decide +kernel, by decide +kernel⟩, by decide⟩
theorem wM_X6_fault : Cond.instanceMethod yX6_fault ∈ gx_ws := gx_in (List.mem_of_getElem? (i := 458) (by decide +kernel)) rfl
theorem wV_X6_fault : Cond.selects RX6 yX6_fault yX6_fault ∈ gx_ws := gx_in (List.mem_of_getElem? (i := 459) (by decide +kernel)) rfl
theorem wC_X6_rule : Cond.code yX6_rule cX6_rule 2 (some .int) ∈ gx_ws := gx_in (List.mem_of_getElem? (i := 464) (by decide +kernel)) rfl
theorem wS_X6_rule : gx_St yX6_rule mX6_rule 1 := ⟨wC_X6_rule, wI_X6, ⟨by decide +kernel, by decide +kernel, by decide +kernel⟩, by decide⟩
theorem wM_X6_rule : Cond.instanceMethod yX6_rule ∈ gx_ws := gx_in (List.mem_of_getElem? (i := 462) (by decide +kernel)) rfl
theorem wV_X6_rule : Cond.selects RX6 yX6_rule yX6_rule ∈ gx_ws := gx_in (List.mem_of_getElem? (i := 463) (by decide +kernel)) rfl
theorem wC_X6_glove : Cond.code yX6_glove cX6_glove 3 (some .int) ∈ gx_ws := gx_in (List.mem_of_getElem? (i := 480) (by decide +kernel)) rfl
theorem wS_X6_glove : gx_St yX6_glove mX6_glove 2 := ⟨wC_X6_glove, wI_X6, ⟨by decide +kernel, by decide +kernel, by decide +kernel⟩, by decide⟩
theorem wM_X6_glove : Cond.instanceMethod yX6_glove ∈ gx_ws := gx_in (List.mem_of_getElem? (i := 478) (by decide +kernel)) rfl
theorem wV_X6_glove : Cond.selects RX6 yX6_glove yX6_glove ∈ gx_ws := gx_in (List.mem_of_getElem? (i := 479) (by decide +kernel)) rfl
theorem wC_X6_door : Cond.code yX6_door cX6_door 3 (some .int) ∈ gx_ws := gx_in (List.mem_of_getElem? (i := 501) (by decide +kernel)) rfl
theorem wS_X6_door : gx_St yX6_door mX6_door 2 := ⟨wC_X6_door, wI_X6, ⟨by decide +kernel, by decide +kernel, by decide +kernel⟩, by decide⟩
theorem wM_X6_door : Cond.instanceMethod yX6_door ∈ gx_ws := gx_in (List.mem_of_getElem? (i := 499) (by decide +kernel)) rfl
theorem wV_X6_door : Cond.selects RX6 yX6_door yX6_door ∈ gx_ws := gx_in (List.mem_of_getElem? (i := 500) (by decide +kernel)) rfl
theorem wC_X6_stop : Cond.code yX6_stop cX6_stop 2 (some .int) ∈ gx_ws := gx_in (List.mem_of_getElem? (i := 512) (by decide +kernel)) rfl
theorem wS_X6_stop : gx_St yX6_stop mX6_stop 1 := ⟨wC_X6_stop, wI_X6, ⟨by decide +kernel, by decide +kernel, by decide +kernel⟩, by decide⟩
theorem wM_X6_stop : Cond.instanceMethod yX6_stop ∈ gx_ws := gx_in (List.mem_of_getElem? (i := 510) (by decide +kernel)) rfl
theorem wV_X6_stop : Cond.selects RX6 yX6_stop yX6_stop ∈ gx_ws := gx_in (List.mem_of_getElem? (i := 511) (by decide +kernel)) rfl
theorem wC_X6_alter : Cond.code yX6_alter cX6_alter 6 (some .int) ∈ gx_ws := gx_in (List.mem_of_getElem? (i := 520) (by decide +kernel)) rfl
theorem wS_X6_alter : gx_St yX6_alter mX6_alter 3 := ⟨wC_X6_alter, wI_X6, ⟨by decide +kernel, by decide +kernel, by decide +kernel⟩, by decide⟩
theorem wM_X6_alter : Cond.instanceMethod yX6_alter ∈ gx_ws := gx_in (List.mem_of_getElem? (i := 518) (by decide +kernel)) rfl
theorem wV_X6_alter : Cond.selects RX6 yX6_alter yX6_alter ∈ gx_ws := gx_in (List.mem_of_getElem? (i := 519) (by decide +kernel)) rfl
theorem wC_X6_fame : Cond.code yX6_fame cX6_fame 4 (some .int) ∈ gx_ws := gx_in (List.mem_of_getElem? (i := 535) (by decide +kernel)) rfl
theorem wS_X6_fame : gx_St yX6_fame mX6_fame 2 := ⟨wC_X6_fame, wI_X6, ⟨by decide +kernel, by decide +kernel, by decide +kernel⟩, by decide⟩
theorem wM_X6_fame : Cond.instanceMethod yX6_fame ∈ gx_ws := gx_in (List.mem_of_getElem? (i := 533) (by decide +kernel)) rfl
theorem wV_X6_fame : Cond.selects RX6 yX6_fame yX6_fame ∈ gx_ws := gx_in (List.mem_of_getElem? (i := 534) (by decide +kernel)) rfl
theorem wC_X6_leave : Cond.code yX6_leave cX6_leave 2 (some .int) ∈ gx_ws := gx_in (List.mem_of_getElem? (i := 539) (by decide +kernel)) rfl
theorem wS_X6_leave : gx_St yX6_leave mX6_leave 1 := ⟨wC_X6_leave, wI_X6, ⟨by decide +kernel, by decide +kernel, by decide +kernel⟩, by decide⟩
theorem wM_X6_leave : Cond.instanceMethod yX6_leave ∈ gx_ws := gx_in (List.mem_of_getElem? (i := 537) (by decide +kernel)) rfl
theorem wV_X6_leave : Cond.selects RX6 yX6_leave yX6_leave ∈ gx_ws := gx_in (List.mem_of_getElem? (i := 538) (by decide +kernel)) rfl
theorem wC_X6_go : Cond.code yX6_go cX6_go 3 (some .int) ∈ gx_ws := gx_in (List.mem_of_getElem? (i := 543) (by decide +kernel)) rfl
theorem wS_X6_go : gx_St yX6_go mX6_go 1 := ⟨wC_X6_go, wI_X6, ⟨by decide +kernel, by decide +kernel, by decide +kernel⟩, by decide⟩
theorem wM_X6_go : Cond.instanceMethod yX6_go ∈ gx_ws := gx_in (List.mem_of_getElem? (i := 541) (by decide +kernel)) rfl
theorem wV_X6_go : Cond.selects RX6 yX6_go yX6_go ∈ gx_ws := gx_in (List.mem_of_getElem? (i := 542) (by decide +kernel)) rfl
theorem wC_X6_call : Cond.code yX6_call cX6_call 2 (some .int) ∈ gx_ws := gx_in (List.mem_of_getElem? (i := 551) (by decide +kernel)) rfl
theorem wS_X6_call : gx_St yX6_call mX6_call 1 := ⟨wC_X6_call, wI_X6, ⟨by decide +kernel, by decide +kernel, by decide +kernel⟩, by decide⟩
theorem wM_X6_call : Cond.instanceMethod yX6_call ∈ gx_ws := gx_in (List.mem_of_getElem? (i := 549) (by decide +kernel)) rfl
theorem wV_X6_call : Cond.selects RX6 yX6_call yX6_call ∈ gx_ws := gx_in (List.mem_of_getElem? (i := 550) (by decide +kernel)) rfl
theorem wC_X6_cut : Cond.code yX6_cut cX6_cut 3 (some .int) ∈ gx_ws := gx_in (List.mem_of_getElem? (i := 555) (by decide +kernel)) rfl
theorem wS_X6_cut : gx_St yX6_cut mX6_cut 1 := ⟨wC_X6_cut, wI_X6, ⟨by decide +kernel, by decide +kernel, by decide +kernel⟩, by decide⟩
theorem wM_X6_cut : Cond.instanceMethod yX6_cut ∈ gx_ws := gx_in (List.mem_of_getElem? (i := 553) (by decide +kernel)) rfl
theorem wV_X6_cut : Cond.selects RX6 yX6_cut yX6_cut ∈ gx_ws := gx_in (List.mem_of_getElem? (i := 554) (by decide +kernel)) rfl
theorem wC_X6_days : Cond.code yX6_days cX6_days 3 (some .int) ∈ gx_ws := gx_in (List.mem_of_getElem? (i := 559) (by decide +kernel)) rfl
theorem wS_X6_days : gx_St yX6_days mX6_days 1 := ⟨wC_X6_days, wI_X6, ⟨by decide +kernel, by decide +kernel, by decide +kernel⟩, by decide⟩
theorem wM_X6_days : Cond.instanceMethod yX6_days ∈ gx_ws := gx_in (List.mem_of_getElem? (i := 557) (by decide +kernel)) rfl
theorem wV_X6_days : Cond.selects RX6 yX6_days yX6_days ∈ gx_ws := gx_in (List.mem_of_getElem? (i := 558) (by decide +kernel)) rfl
theorem wC_X6_runs : Cond.code yX6_runs cX6_runs 3 (some .int) ∈ gx_ws := gx_in (List.mem_of_getElem? (i := 579) (by decide +kernel)) rfl
theorem wS_X6_runs : gx_St yX6_runs mX6_runs 2 := ⟨wC_X6_runs, wI_X6, ⟨by decide +kernel, by decide +kernel, by decide +kernel⟩, by decide⟩
theorem wM_X6_runs : Cond.instanceMethod yX6_runs ∈ gx_ws := gx_in (List.mem_of_getElem? (i := 577) (by decide +kernel)) rfl
theorem wV_X6_runs : Cond.selects RX6 yX6_runs yX6_runs ∈ gx_ws := gx_in (List.mem_of_getElem? (i := 578) (by decide +kernel)) rfl
theorem wC_X6_ahead : Cond.code yX6_ahead cX6_ahead 4 (some .int) ∈ gx_ws := gx_in (List.mem_of_getElem? (i := 587) (by decide +kernel)) rfl
theorem wS_X6_ahead : gx_St yX6_ahead mX6_ahead 3 := ⟨wC_X6_ahead, wI_X6, ⟨by decide +kernel, by decide +kernel, by decide +kernel⟩, by decide⟩
theorem wM_X6_ahead : Cond.instanceMethod yX6_ahead ∈ gx_ws := gx_in (List.mem_of_getElem? (i := 585) (by decide +kernel)) rfl
theorem wV_X6_ahead : Cond.selects RX6 yX6_ahead yX6_ahead ∈ gx_ws := gx_in (List.mem_of_getElem? (i := 586) (by decide +kernel)) rfl
theorem wC_X6_meets : Cond.code yX6_meets cX6_meets 2 (some .int) ∈ gx_ws := gx_in (List.mem_of_getElem? (i := 591) (by decide +kernel)) rfl
theorem wS_X6_meets : gx_St yX6_meets mX6_meets 1 := ⟨wC_X6_meets, wI_X6, ⟨by decide +kernel, by decide +kernel, by decide +kernel⟩, by decide⟩
theorem wM_X6_meets : Cond.instanceMethod yX6_meets ∈ gx_ws := gx_in (List.mem_of_getElem? (i := 589) (by decide +kernel)) rfl
theorem wV_X6_meets : Cond.selects RX6 yX6_meets yX6_meets ∈ gx_ws := gx_in (List.mem_of_getElem? (i := 590) (by decide +kernel)) rfl
theorem wC_X6_place : Cond.code yX6_place cX6_place 4 (some .int) ∈ gx_ws := gx_in (List.mem_of_getElem? (i := 595) (by decide +kernel)) rfl
theorem wS_X6_place : gx_St yX6_place mX6_place 3 := ⟨wC_X6_place, wI_X6, ⟨by decide +kernel, by decide +kernel, by decide +kernel⟩, by decide⟩
theorem wM_X6_place : Cond.instanceMethod yX6_place ∈ gx_ws := gx_in (List.mem_of_getElem? (i := 593) (by decide +kernel)) rfl
theorem wV_X6_place : Cond.selects RX6 yX6_place yX6_place ∈ gx_ws := gx_in (List.mem_of_getElem? (i := 594) (by decide +kernel)) rfl
theorem wC_X6_extra : Cond.code yX6_extra cX6_extra 3 (some .int) ∈ gx_ws := gx_in (List.mem_of_getElem? (i := 616) (by decide +kernel)) rfl
theorem wS_X6_extra : gx_St yX6_extra mX6_extra 2 := ⟨wC_X6_extra, wI_X6, ⟨by decide +kernel, by decide +kernel, by decide +kernel⟩, by decide⟩
theorem wM_X6_extra : Cond.instanceMethod yX6_extra ∈ gx_ws := gx_in (List.mem_of_getElem? (i := 614) (by decide +kernel)) rfl
theorem wV_X6_extra : Cond.selects RX6 yX6_extra yX6_extra ∈ gx_ws := gx_in (List.mem_of_getElem? (i := 615) (by decide +kernel)) rfl
theorem wC_X6_swap : Cond.code yX6_swap cX6_swap 8 (some .int) ∈ gx_ws := gx_in (List.mem_of_getElem? (i := 620) (by decide +kernel)) rfl
theorem wS_X6_swap : gx_St yX6_swap mX6_swap 2 := ⟨wC_X6_swap, wI_X6, ⟨by decide +kernel, by decide +kernel, by decide +kernel⟩, by decide⟩
theorem wM_X6_swap : Cond.instanceMethod yX6_swap ∈ gx_ws := gx_in (List.mem_of_getElem? (i := 618) (by decide +kernel)) rfl
theorem wV_X6_swap : Cond.selects RX6 yX6_swap yX6_swap ∈ gx_ws := gx_in (List.mem_of_getElem? (i := 619) (by decide +kernel)) rfl
theorem wC_X6_shun : Cond.code yX6_shun cX6_shun 6 (some .int) ∈ gx_ws := gx_in (List.mem_of_getElem? (i := 632) (by decide +kernel)) rfl
theorem wS_X6_shun : gx_St yX6_shun mX6_shun 2 := ⟨wC_X6_shun, wI_X6, ⟨by decide +kernel, by decide +kernel, by decide +kernel⟩, by decide⟩
theorem wM_X6_shun : Cond.instanceMethod yX6_shun ∈ gx_ws := gx_in (List.mem_of_getElem? (i := 630) (by decide +kernel)) rfl
theorem wV_X6_shun : Cond.selects RX6 yX6_shun yX6_shun ∈ gx_ws := gx_in (List.mem_of_getElem? (i := 631) (by decide +kernel)) rfl
theorem wC_X6_need : Cond.code yX6_need cX6_need 3 (some .int) ∈ gx_ws := gx_in (List.mem_of_getElem? (i := 640) (by decide +kernel)) rfl
theorem wS_X6_need : gx_St yX6_need mX6_need 2 := ⟨wC_X6_need, wI_X6, ⟨by decide +kernel, by decide +kernel, by decide +kernel⟩, by decide⟩
theorem wM_X6_need : Cond.instanceMethod yX6_need ∈ gx_ws := gx_in (List.mem_of_getElem? (i := 638) (by decide +kernel)) rfl
theorem wV_X6_need : Cond.selects RX6 yX6_need yX6_need ∈ gx_ws := gx_in (List.mem_of_getElem? (i := 639) (by decide +kernel)) rfl
theorem wC_X6_kind : Cond.code yX6_kind cX6_kind 4 (some .int) ∈ gx_ws := gx_in (List.mem_of_getElem? (i := 644) (by decide +kernel)) rfl
theorem wS_X6_kind : gx_St yX6_kind mX6_kind 3 := ⟨wC_X6_kind, wI_X6, ⟨by decide +kernel, by decide +kernel, by decide +kernel⟩, by decide⟩
theorem wM_X6_kind : Cond.instanceMethod yX6_kind ∈ gx_ws := gx_in (List.mem_of_getElem? (i := 642) (by decide +kernel)) rfl
theorem wV_X6_kind : Cond.selects RX6 yX6_kind yX6_kind ∈ gx_ws := gx_in (List.mem_of_getElem? (i := 643) (by decide +kernel)) rfl
theorem wC_X6_drop : Cond.code yX6_drop cX6_drop 4 (some .int) ∈ gx_ws := gx_in (List.mem_of_getElem? (i := 652) (by decide +kernel)) rfl
theorem wS_X6_drop : gx_St yX6_drop mX6_drop 3 := ⟨wC_X6_drop, wI_X6, ⟨by decide +kernel, by decide +kernel, by decide +kernel⟩, by decide⟩
theorem wM_X6_drop : Cond.instanceMethod yX6_drop ∈ gx_ws := gx_in (List.mem_of_getElem? (i := 650) (by decide +kernel)) rfl
theorem wV_X6_drop : Cond.selects RX6 yX6_drop yX6_drop ∈ gx_ws := gx_in (List.mem_of_getElem? (i := 651) (by decide +kernel)) rfl
theorem wC_X6_luck : Cond.code yX6_luck cX6_luck 5 (some .long) ∈ gx_ws := gx_in (List.mem_of_getElem? (i := 656) (by decide +kernel)) rfl
theorem wS_X6_luck : gx_St yX6_luck mX6_luck 4 := ⟨wC_X6_luck, wI_X6, ⟨by decide +kernel, by decide +kernel, by decide +kernel⟩, by decide⟩
theorem wM_X6_luck : Cond.instanceMethod yX6_luck ∈ gx_ws := gx_in (List.mem_of_getElem? (i := 654) (by decide +kernel)) rfl
theorem wV_X6_luck : Cond.selects RX6 yX6_luck yX6_luck ∈ gx_ws := gx_in (List.mem_of_getElem? (i := 655) (by decide +kernel)) rfl
theorem wC_X6_mean : Cond.code yX6_mean cX6_mean 4 (some .long) ∈ gx_ws := gx_in (List.mem_of_getElem? (i := 676) (by decide +kernel)) rfl
theorem wS_X6_mean : gx_St yX6_mean mX6_mean 3 := ⟨wC_X6_mean, wI_X6, ⟨by decide +kernel, by decide +kernel, by decide +kernel⟩, by decide⟩
theorem wM_X6_mean : Cond.instanceMethod yX6_mean ∈ gx_ws := gx_in (List.mem_of_getElem? (i := 674) (by decide +kernel)) rfl
theorem wV_X6_mean : Cond.selects RX6 yX6_mean yX6_mean ∈ gx_ws := gx_in (List.mem_of_getElem? (i := 675) (by decide +kernel)) rfl
theorem wC_X6_see : Cond.code yX6_see cX6_see 4 (some .int) ∈ gx_ws := gx_in (List.mem_of_getElem? (i := 680) (by decide +kernel)) rfl
theorem wS_X6_see : gx_St yX6_see mX6_see 3 := ⟨wC_X6_see, wI_X6, ⟨by decide +kernel, by decide +kernel, by decide +kernel⟩, by decide⟩
theorem wM_X6_see : Cond.instanceMethod yX6_see ∈ gx_ws := gx_in (List.mem_of_getElem? (i := 678) (by decide +kernel)) rfl
theorem wV_X6_see : Cond.selects RX6 yX6_see yX6_see ∈ gx_ws := gx_in (List.mem_of_getElem? (i := 679) (by decide +kernel)) rfl
theorem wC_X6_forget : Cond.code yX6_forget cX6_forget 3 (some .int) ∈ gx_ws := gx_in (List.mem_of_getElem? (i := 688) (by decide +kernel)) rfl
theorem wS_X6_forget : gx_St yX6_forget mX6_forget 1 := ⟨wC_X6_forget, wI_X6, ⟨by decide +kernel, by decide +kernel, by decide +kernel⟩, by decide⟩
theorem wM_X6_forget : Cond.instanceMethod yX6_forget ∈ gx_ws := gx_in (List.mem_of_getElem? (i := 686) (by decide +kernel)) rfl
theorem wV_X6_forget : Cond.selects RX6 yX6_forget yX6_forget ∈ gx_ws := gx_in (List.mem_of_getElem? (i := 687) (by decide +kernel)) rfl
theorem wC_X6_kinds : Cond.code yX6_kinds cX6_kinds 2 (some .int) ∈ gx_ws := gx_in (List.mem_of_getElem? (i := 692) (by decide +kernel)) rfl
theorem wS_X6_kinds : gx_St yX6_kinds mX6_kinds 1 := ⟨wC_X6_kinds, wI_X6, ⟨by decide +kernel, by decide +kernel, by decide +kernel⟩, by decide⟩
theorem wM_X6_kinds : Cond.instanceMethod yX6_kinds ∈ gx_ws := gx_in (List.mem_of_getElem? (i := 690) (by decide +kernel)) rfl
theorem wV_X6_kinds : Cond.selects RX6 yX6_kinds yX6_kinds ∈ gx_ws := gx_in (List.mem_of_getElem? (i := 691) (by decide +kernel)) rfl
theorem wC_X6_doors : Cond.code yX6_doors cX6_doors 2 (some .int) ∈ gx_ws := gx_in (List.mem_of_getElem? (i := 713) (by decide +kernel)) rfl
theorem wS_X6_doors : gx_St yX6_doors mX6_doors 1 := ⟨wC_X6_doors, wI_X6, ⟨by decide +kernel, by decide +kernel, by decide +kernel⟩, by decide⟩
theorem wM_X6_doors : Cond.instanceMethod yX6_doors ∈ gx_ws := gx_in (List.mem_of_getElem? (i := 711) (by decide +kernel)) rfl
theorem wV_X6_doors : Cond.selects RX6 yX6_doors yX6_doors ∈ gx_ws := gx_in (List.mem_of_getElem? (i := 712) (by decide +kernel)) rfl
theorem wC_X6_ask : Cond.code yX6_ask cX6_ask 9 (some .int) ∈ gx_ws := gx_in (List.mem_of_getElem? (i := 717) (by decide +kernel)) rfl
theorem wS_X6_ask : gx_St yX6_ask mX6_ask 2 := ⟨wC_X6_ask, wI_X6, ⟨by decide +kernel, by decide +kernel, by decide +kernel⟩, by decide⟩
theorem wM_X6_ask : Cond.instanceMethod yX6_ask ∈ gx_ws := gx_in (List.mem_of_getElem? (i := 715) (by decide +kernel)) rfl
theorem wV_X6_ask : Cond.selects RX6 yX6_ask yX6_ask ∈ gx_ws := gx_in (List.mem_of_getElem? (i := 716) (by decide +kernel)) rfl
theorem wC_X6_drift : Cond.code yX6_drift cX6_drift 6 (some .int) ∈ gx_ws := gx_in (List.mem_of_getElem? (i := 726) (by decide +kernel)) rfl
theorem wS_X6_drift : gx_St yX6_drift mX6_drift 3 := ⟨wC_X6_drift, wI_X6, ⟨by decide +kernel, by decide +kernel, by decide +kernel⟩, by decide⟩
theorem wM_X6_drift : Cond.instanceMethod yX6_drift ∈ gx_ws := gx_in (List.mem_of_getElem? (i := 724) (by decide +kernel)) rfl
theorem wV_X6_drift : Cond.selects RX6 yX6_drift yX6_drift ∈ gx_ws := gx_in (List.mem_of_getElem? (i := 725) (by decide +kernel)) rfl
theorem wC_X6_keep : Cond.code yX6_keep cX6_keep 4 (some .int) ∈ gx_ws := gx_in (List.mem_of_getElem? (i := 731) (by decide +kernel)) rfl
theorem wS_X6_keep : gx_St yX6_keep mX6_keep 1 := ⟨wC_X6_keep, wI_X6, ⟨by decide +kernel, by decide +kernel, by decide +kernel⟩, by decide⟩
theorem wM_X6_keep : Cond.instanceMethod yX6_keep ∈ gx_ws := gx_in (List.mem_of_getElem? (i := 729) (by decide +kernel)) rfl
theorem wV_X6_keep : Cond.selects RX6 yX6_keep yX6_keep ∈ gx_ws := gx_in (List.mem_of_getElem? (i := 730) (by decide +kernel)) rfl
theorem wC_X6_back : Cond.code yX6_back cX6_back 3 (some .int) ∈ gx_ws := gx_in (List.mem_of_getElem? (i := 740) (by decide +kernel)) rfl
theorem wS_X6_back : gx_St yX6_back mX6_back 1 := ⟨wC_X6_back, wI_X6, ⟨by decide +kernel, by decide +kernel, by decide +kernel⟩, by decide⟩
theorem wM_X6_back : Cond.instanceMethod yX6_back ∈ gx_ws := gx_in (List.mem_of_getElem? (i := 738) (by decide +kernel)) rfl
theorem wV_X6_back : Cond.selects RX6 yX6_back yX6_back ∈ gx_ws := gx_in (List.mem_of_getElem? (i := 739) (by decide +kernel)) rfl
theorem wC_X6_sheet : Cond.code yX6_sheet cX6_sheet 4 (some .int) ∈ gx_ws := gx_in (List.mem_of_getElem? (i := 744) (by decide +kernel)) rfl
theorem wS_X6_sheet : gx_St yX6_sheet mX6_sheet 3 := ⟨wC_X6_sheet, wI_X6, ⟨by decide +kernel, by decide +kernel, by decide +kernel⟩, by decide⟩
theorem wM_X6_sheet : Cond.instanceMethod yX6_sheet ∈ gx_ws := gx_in (List.mem_of_getElem? (i := 742) (by decide +kernel)) rfl
theorem wV_X6_sheet : Cond.selects RX6 yX6_sheet yX6_sheet ∈ gx_ws := gx_in (List.mem_of_getElem? (i := 743) (by decide +kernel)) rfl
theorem wC_X6_lay : Cond.code yX6_lay cX6_lay 5 (some .int) ∈ gx_ws := gx_in (List.mem_of_getElem? (i := 756) (by decide +kernel)) rfl
theorem wS_X6_lay : gx_St yX6_lay mX6_lay 3 := ⟨wC_X6_lay, wI_X6, ⟨by decide +kernel, by decide +kernel, by decide +kernel⟩, by decide⟩
theorem wM_X6_lay : Cond.instanceMethod yX6_lay ∈ gx_ws := gx_in (List.mem_of_getElem? (i := 754) (by decide +kernel)) rfl
theorem wV_X6_lay : Cond.selects RX6 yX6_lay yX6_lay ∈ gx_ws := gx_in (List.mem_of_getElem? (i := 755) (by decide +kernel)) rfl
theorem wC_X6_read : Cond.code yX6_read cX6_read 9 (some .int) ∈ gx_ws := gx_in (List.mem_of_getElem? (i := 773) (by decide +kernel)) rfl
theorem wS_X6_read : gx_St yX6_read mX6_read 4 := ⟨wC_X6_read, wI_X6, ⟨by decide +kernel, by decide +kernel, by decide +kernel⟩, by decide⟩
theorem wM_X6_read : Cond.instanceMethod yX6_read ∈ gx_ws := gx_in (List.mem_of_getElem? (i := 771) (by decide +kernel)) rfl
theorem wV_X6_read : Cond.selects RX6 yX6_read yX6_read ∈ gx_ws := gx_in (List.mem_of_getElem? (i := 772) (by decide +kernel)) rfl
theorem wC_X6_torn : Cond.code yX6_torn cX6_torn 1 (some .int) ∈ gx_ws := gx_in (List.mem_of_getElem? (i := 782) (by decide +kernel)) rfl
theorem wS_X6_torn : gx_St yX6_torn mX6_torn 0 := ⟨wC_X6_torn, wI_X6, ⟨by decide +kernel, by decide +kernel, by decide +kernel⟩, by decide⟩
theorem wM_X6_torn : Cond.instanceMethod yX6_torn ∈ gx_ws := gx_in (List.mem_of_getElem? (i := 780) (by decide +kernel)) rfl
theorem wV_X6_torn : Cond.selects RX6 yX6_torn yX6_torn ∈ gx_ws := gx_in (List.mem_of_getElem? (i := 781) (by decide +kernel)) rfl
theorem wC_X6_count : Cond.code yX6_count cX6_count 2 (some .int) ∈ gx_ws := gx_in (List.mem_of_getElem? (i := 786) (by decide +kernel)) rfl
theorem wS_X6_count : gx_St yX6_count mX6_count 1 := ⟨wC_X6_count, wI_X6, ⟨by decide +kernel, by decide +kernel, by decide +kernel⟩, by decide⟩
theorem wM_X6_count : Cond.instanceMethod yX6_count ∈ gx_ws := gx_in (List.mem_of_getElem? (i := 784) (by decide +kernel)) rfl
