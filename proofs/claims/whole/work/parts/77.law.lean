/-! ===== the law's loop ===== -/
theorem J_sld {G : gx_G} {M : gx_M} {d kc ks : Nat} {Q : Option Value → gx_Hp → Prop} {pc n : Nat} {lv : List (Nat × Value)} {rest : List Value} {h : gx_Hp} {j : Int32} (hd : decode M.2.1 pc = .ok (.iaload, 1)) (hin : vp_in j (G.2.2.2.2 7)) (hn : pc + 1 = n) (k : gx_J G M d kc ks Q n lv (.int (gx_xs G j.toNatClampNeg) :: rest) h) : gx_J G M d kc ks Q pc lv (.int j :: .ref (G.2.2.2.1 7) :: rest) h := by
  subst hn
  intro p l e R s m args below meth c H locs cells slots ls A hR hL hl hcc hs
  have hts := A.2.2.2.2.2.2.2.1
  have hI := A.2.2.2.2.2.2.2.2.1
  obtain ⟨cell, h1, h2, h3, h4, h5, h6, h7⟩ := hI.2.1.2.2.kept (gx_kept hR)
  have hlt : j.toNatClampNeg < G.2.2.2.2 7 := Nat.not_le.mp fun q => hin (Or.inr q)
  have hin' : ¬ (j < 0 ∨ cell.slots.size ≤ j.toNatClampNeg) := by
    intro q
    rcases q with q | q
    · exact hin (Or.inl q)
    · omega
  exact W.iald (v := .int (gx_xs G j.toNatClampNeg)) A.1 A.2.1 h1 h2 h3 hin' (h6 _ hlt) rfl rfl hd (k p l e R s m args below meth c H locs cells slots ls A hR hL hl hcc hs)
theorem J_slen {G : gx_G} {M : gx_M} {d kc ks : Nat} {Q : Option Value → gx_Hp → Prop} {pc n : Nat} {lv : List (Nat × Value)} {rest : List Value} {h : gx_Hp} (hd : decode M.2.1 pc = .ok (.arraylength, 1)) (hn : pc + 1 = n) (k : gx_J G M d kc ks Q n lv (.int (nI (G.2.2.2.2 7)) :: rest) h) : gx_J G M d kc ks Q pc lv (.ref (G.2.2.2.1 7) :: rest) h := by
  subst hn
  intro p l e R s m args below meth c H locs cells slots ls A hR hL hl hcc hs
  have hts := A.2.2.2.2.2.2.2.1
  have hI := A.2.2.2.2.2.2.2.2.1
  obtain ⟨cell, h1, h2, h3, h4, h5, h6, h7⟩ := hI.2.1.2.2.kept (gx_kept hR)
  exact W.alen (n := Int32.ofNat (G.2.2.2.2 7)) A.1 A.2.1 h1 h2 h5 rfl rfl hd (k p l e R s m args below meth c H locs cells slots ls A hR hL hl hcc hs)
theorem lg_0 (x : Int64) : lg_cmp x x = 0 := by
  unfold lg_cmp
  rw [if_neg (fun h => Int64.lt_irrefl h), if_pos rfl]
theorem sub5 : ∀ L, L < 5 → nI L - nI 5 < 0 := by decide +kernel
set_option maxHeartbeats 4000000 in
set_option maxRecDepth 100000 in
theorem jl_feed {G : gx_G} {σ : gs_S} {Q : Option Value → gx_Hp → Prop} {S : pS} (d : Nat) {i : Nat} (hi : i + 5 ≤ G.2.2.2.2 7) (hL : G.2.2.2.2 7 ≤ 320) (hS : SOk S) (hc : cR σ S) (hm : mR (σ 7 0) S) (k1450 : ∀ τ S1, SOk S1 → cR τ S1 → mR (τ 7 0) S1 → gx_J G mL_law (d + 20) 0 0 Q 1450 [(0, .ref (G.2.2.2.1 7)), (1, .ref (gs_a G 6 0 0)), (2, .ref (gs_a G 7 0 0)), (3, .int (nI i))] [] (hp G τ)) : gx_J G mL_law (d + 20) 0 0 Q 208 [(0, .ref (G.2.2.2.1 7)), (1, .ref (gs_a G 6 0 0)), (2, .ref (gs_a G 7 0 0)), (3, .int (nI i))] [] (hp G σ) := by
  refine J_aload_n (i := 1) (n := 209) dL_law_208 rfl rfl rfl ?_
  refine J_aload_n (i := 0) (n := 210) dL_law_209 rfl rfl rfl ?_
  refine J_iload_n (i := 3) (n := 211) dL_law_210 rfl rfl rfl ?_
  refine J_iconst (n := 212) dL_law_211 kI_1 rfl ?_
  refine J_iadd (n := 213) dL_law_212 rfl ?_
  try rw [nI_add]
  refine J_sld (n := 214) dL_law_213 (vp_in_nI (by omega) (by omega)) rfl ?_
  rw [nI_clamp (by omega)]
  refine J_callVx (n := 217) wS_X6_feed (c_G_feed (Q := fun r h => r = some (.int ((sp_feed S (gx_xs G (i + 1))).1)) ∧ ∃ τ, cR τ ((sp_feed S (gx_xs G (i + 1))).2) ∧ τ 7 0 = σ 7 0 ∧ h = hp G τ) (d + 7) (gx_xs G (i + 1)) hS hc (fun τ h1 h2 => ⟨rfl, τ, h1, h2, rfl⟩)) dL_law_214 wm_L_13 ⟨wM_X6_feed, wV_X6_feed⟩ rfl (T_recv (by decide) (by decide)) rfl rfl (Nat.le_of_ble_eq_true rfl) rfl (fun r h1 hq1 => ?_)
  obtain ⟨rfl, τ, hc1, h7, rfl⟩ := hq1
  refine J_aload_n (i := 2) (n := 218) dL_law_217 rfl rfl rfl ?_
  refine J_aload_n (i := 0) (n := 219) dL_law_218 rfl rfl rfl ?_
  refine J_iload_n (i := 3) (n := 220) dL_law_219 rfl rfl rfl ?_
  refine J_iconst (n := 221) dL_law_220 kI_1 rfl ?_
  refine J_iadd (n := 222) dL_law_221 rfl ?_
  try rw [nI_add]
  refine J_sld (n := 223) dL_law_222 (vp_in_nI (by omega) (by omega)) rfl ?_
  rw [nI_clamp (by omega)]
  refine J_callVx (n := 226) wS_X7_feed (K_eta 7 0 (c_N_feed (Q := fun r h => r = some (.int ((sp_feed S (gx_xs G (i + 1))).1)) ∧ ∃ v1, mR v1 ((sp_feed S (gx_xs G (i + 1))).2) ∧ h = hp G (gs_set τ 7 0 v1)) (d + 7) (gx_xs G (i + 1)) hS (show mR (τ 7 0) S by rw [h7]; exact hm) (fun v1 h1 => ⟨rfl, v1, h1, rfl⟩))) dL_law_223 wm_L_17 ⟨wM_X7_feed, wV_X7_feed⟩ rfl (T_recv (by decide) (by decide)) rfl rfl (Nat.le_of_ble_eq_true rfl) rfl (fun r h1 hq1 => ?_)
  obtain ⟨rfl, v1, hm1, rfl⟩ := hq1
  refine J_icmp_eq (tgt := 1450) (n := 229) dL_law_226 (by decide) rfl (fun c_226 => ?_) (fun c_226 => ?_)
  · exact k1450 _ ((sp_feed S (gx_xs G (i + 1))).2) (ok_feed hS (gx_xs G (i + 1))) hc1.model (by rw [gs_same]; exact hm1)
  · exact absurd rfl c_226
set_option maxHeartbeats 4000000 in
set_option maxRecDepth 100000 in
theorem jl_end {G : gx_G} {σ : gs_S} {Q : Option Value → gx_Hp → Prop} {S : pS} (d : Nat) {i : Nat} (hi : i + 5 ≤ G.2.2.2.2 7) (hL : G.2.2.2.2 7 ≤ 320) (hS : SOk S) (hc : cR σ S) (hm : mR (σ 7 0) S) (k1450 : ∀ τ S1, SOk S1 → cR τ S1 → mR (τ 7 0) S1 → gx_J G mL_law (d + 20) 0 0 Q 1450 [(0, .ref (G.2.2.2.1 7)), (1, .ref (gs_a G 6 0 0)), (2, .ref (gs_a G 7 0 0)), (3, .int (nI i))] [] (hp G τ)) : gx_J G mL_law (d + 20) 0 0 Q 231 [(0, .ref (G.2.2.2.1 7)), (1, .ref (gs_a G 6 0 0)), (2, .ref (gs_a G 7 0 0)), (3, .int (nI i))] [] (hp G σ) := by
  refine J_aload_n (i := 1) (n := 232) dL_law_231 rfl rfl rfl ?_
  refine J_aload_n (i := 0) (n := 233) dL_law_232 rfl rfl rfl ?_
  refine J_iload_n (i := 3) (n := 234) dL_law_233 rfl rfl rfl ?_
  refine J_iconst (n := 235) dL_law_234 kI_1 rfl ?_
  refine J_iadd (n := 236) dL_law_235 rfl ?_
  try rw [nI_add]
  refine J_sld (n := 237) dL_law_236 (vp_in_nI (by omega) (by omega)) rfl ?_
  rw [nI_clamp (by omega)]
  refine J_callVx (n := 240) wS_X6_end (c_G_end (Q := fun r h => r = some (.int ((sp_end S (gx_xs G (i + 1))).1)) ∧ ∃ τ, cR τ ((sp_end S (gx_xs G (i + 1))).2) ∧ τ 7 0 = σ 7 0 ∧ h = hp G τ) (d + 7) (gx_xs G (i + 1)) hS hc (fun τ h1 h2 => ⟨rfl, τ, h1, h2, rfl⟩)) dL_law_237 wm_L_18 ⟨wM_X6_end, wV_X6_end⟩ rfl (T_recv (by decide) (by decide)) rfl rfl (Nat.le_of_ble_eq_true rfl) rfl (fun r h1 hq1 => ?_)
  obtain ⟨rfl, τ, hc1, h7, rfl⟩ := hq1
  refine J_aload_n (i := 2) (n := 241) dL_law_240 rfl rfl rfl ?_
  refine J_aload_n (i := 0) (n := 242) dL_law_241 rfl rfl rfl ?_
  refine J_iload_n (i := 3) (n := 243) dL_law_242 rfl rfl rfl ?_
  refine J_iconst (n := 244) dL_law_243 kI_1 rfl ?_
  refine J_iadd (n := 245) dL_law_244 rfl ?_
  try rw [nI_add]
  refine J_sld (n := 246) dL_law_245 (vp_in_nI (by omega) (by omega)) rfl ?_
  rw [nI_clamp (by omega)]
  refine J_callVx (n := 249) wS_X7_end (K_eta 7 0 (c_N_end (Q := fun r h => r = some (.int ((sp_end S (gx_xs G (i + 1))).1)) ∧ ∃ v1, mR v1 ((sp_end S (gx_xs G (i + 1))).2) ∧ h = hp G (gs_set τ 7 0 v1)) (d + 7) (gx_xs G (i + 1)) hS (show mR (τ 7 0) S by rw [h7]; exact hm) (fun v1 h1 => ⟨rfl, v1, h1, rfl⟩))) dL_law_246 wm_L_21 ⟨wM_X7_end, wV_X7_end⟩ rfl (T_recv (by decide) (by decide)) rfl rfl (Nat.le_of_ble_eq_true rfl) rfl (fun r h1 hq1 => ?_)
  obtain ⟨rfl, v1, hm1, rfl⟩ := hq1
  refine J_icmp_eq (tgt := 1450) (n := 252) dL_law_249 (by decide) rfl (fun c_249 => ?_) (fun c_249 => ?_)
  · exact k1450 _ ((sp_end S (gx_xs G (i + 1))).2) (ok_end hS (gx_xs G (i + 1))) hc1.model (by rw [gs_same]; exact hm1)
  · exact absurd rfl c_249
set_option maxHeartbeats 4000000 in
set_option maxRecDepth 100000 in
theorem jl_text {G : gx_G} {σ : gs_S} {Q : Option Value → gx_Hp → Prop} {S : pS} (d : Nat) {i : Nat} (hi : i + 5 ≤ G.2.2.2.2 7) (hL : G.2.2.2.2 7 ≤ 320) (hS : SOk S) (hc : cR σ S) (hm : mR (σ 7 0) S) (k1450 : ∀ τ S1, SOk S1 → cR τ S1 → mR (τ 7 0) S1 → gx_J G mL_law (d + 20) 0 0 Q 1450 [(0, .ref (G.2.2.2.1 7)), (1, .ref (gs_a G 6 0 0)), (2, .ref (gs_a G 7 0 0)), (3, .int (nI i))] [] (hp G τ)) : gx_J G mL_law (d + 20) 0 0 Q 254 [(0, .ref (G.2.2.2.1 7)), (1, .ref (gs_a G 6 0 0)), (2, .ref (gs_a G 7 0 0)), (3, .int (nI i))] [] (hp G σ) := by
  refine J_aload_n (i := 1) (n := 255) dL_law_254 rfl rfl rfl ?_
  refine J_callVx (n := 258) wS_X6_text (c_G_text (Q := fun r h => r = some (.int ((sp_text S).1)) ∧ ∃ τ, cR τ ((sp_text S).2) ∧ τ 7 0 = σ 7 0 ∧ h = hp G τ) (d + 7)  hS hc (fun τ h1 h2 => ⟨rfl, τ, h1, h2, rfl⟩)) dL_law_255 wm_L_22 ⟨wM_X6_text, wV_X6_text⟩ rfl (T_recv (by decide) (by decide)) rfl rfl (Nat.le_of_ble_eq_true rfl) rfl (fun r h1 hq1 => ?_)
  obtain ⟨rfl, τ, hc1, h7, rfl⟩ := hq1
  refine J_aload_n (i := 2) (n := 259) dL_law_258 rfl rfl rfl ?_
  refine J_callVx (n := 262) wS_X7_text (K_eta 7 0 (c_N_text (Q := fun r h => r = some (.int ((sp_text S).1)) ∧ ∃ v1, mR v1 ((sp_text S).2) ∧ h = hp G (gs_set τ 7 0 v1)) (d + 7)  hS (show mR (τ 7 0) S by rw [h7]; exact hm) (fun v1 h1 => ⟨rfl, v1, h1, rfl⟩))) dL_law_259 wm_L_26 ⟨wM_X7_text, wV_X7_text⟩ rfl (T_recv (by decide) (by decide)) rfl rfl (Nat.le_of_ble_eq_true rfl) rfl (fun r h1 hq1 => ?_)
  obtain ⟨rfl, v1, hm1, rfl⟩ := hq1
  refine J_icmp_eq (tgt := 1450) (n := 265) dL_law_262 (by decide) rfl (fun c_262 => ?_) (fun c_262 => ?_)
  · exact k1450 _ ((sp_text S).2) (ok_text hS) hc1.model (by rw [gs_same]; exact hm1)
  · exact absurd rfl c_262
set_option maxHeartbeats 4000000 in
set_option maxRecDepth 100000 in
theorem jl_fault {G : gx_G} {σ : gs_S} {Q : Option Value → gx_Hp → Prop} {S : pS} (d : Nat) {i : Nat} (hi : i + 5 ≤ G.2.2.2.2 7) (hL : G.2.2.2.2 7 ≤ 320) (hS : SOk S) (hc : cR σ S) (hm : mR (σ 7 0) S) (k1450 : ∀ τ S1, SOk S1 → cR τ S1 → mR (τ 7 0) S1 → gx_J G mL_law (d + 20) 0 0 Q 1450 [(0, .ref (G.2.2.2.1 7)), (1, .ref (gs_a G 6 0 0)), (2, .ref (gs_a G 7 0 0)), (3, .int (nI i))] [] (hp G τ)) : gx_J G mL_law (d + 20) 0 0 Q 267 [(0, .ref (G.2.2.2.1 7)), (1, .ref (gs_a G 6 0 0)), (2, .ref (gs_a G 7 0 0)), (3, .int (nI i))] [] (hp G σ) := by
  refine J_aload_n (i := 1) (n := 268) dL_law_267 rfl rfl rfl ?_
  refine J_callVx (n := 271) wS_X6_fault (c_G_fault (Q := fun r h => r = some (.int (nI (S.2.2.2.2.1 0))) ∧ ∃ τ, cR τ (S) ∧ τ 7 0 = σ 7 0 ∧ h = hp G τ) (d + 7)  hS hc (fun τ h1 h2 => ⟨rfl, τ, h1, h2, rfl⟩)) dL_law_268 wm_L_27 ⟨wM_X6_fault, wV_X6_fault⟩ rfl (T_recv (by decide) (by decide)) rfl rfl (Nat.le_of_ble_eq_true rfl) rfl (fun r h1 hq1 => ?_)
  obtain ⟨rfl, τ, hc1, h7, rfl⟩ := hq1
  refine J_aload_n (i := 2) (n := 272) dL_law_271 rfl rfl rfl ?_
  refine J_callVx (n := 275) wS_X7_fault (K_eta 7 0 (c_N_fault (Q := fun r h => r = some (.int (nI (S.2.2.2.2.1 0))) ∧ ∃ v1, mR v1 (S) ∧ h = hp G (gs_set τ 7 0 v1)) (d + 7)  hS (show mR (τ 7 0) S by rw [h7]; exact hm) (fun v1 h1 => ⟨rfl, v1, h1, rfl⟩))) dL_law_272 wm_L_30 ⟨wM_X7_fault, wV_X7_fault⟩ rfl (T_recv (by decide) (by decide)) rfl rfl (Nat.le_of_ble_eq_true rfl) rfl (fun r h1 hq1 => ?_)
  obtain ⟨rfl, v1, hm1, rfl⟩ := hq1
  refine J_icmp_eq (tgt := 1450) (n := 278) dL_law_275 (by decide) rfl (fun c_275 => ?_) (fun c_275 => ?_)
  · exact k1450 _ (S) hS hc1.model (by rw [gs_same]; exact hm1)
  · exact absurd rfl c_275
set_option maxHeartbeats 4000000 in
set_option maxRecDepth 100000 in
theorem jl_rule {G : gx_G} {σ : gs_S} {Q : Option Value → gx_Hp → Prop} {S : pS} (d : Nat) {i : Nat} (hi : i + 5 ≤ G.2.2.2.2 7) (hL : G.2.2.2.2 7 ≤ 320) (hS : SOk S) (hc : cR σ S) (hm : mR (σ 7 0) S) (k1450 : ∀ τ S1, SOk S1 → cR τ S1 → mR (τ 7 0) S1 → gx_J G mL_law (d + 20) 0 0 Q 1450 [(0, .ref (G.2.2.2.1 7)), (1, .ref (gs_a G 6 0 0)), (2, .ref (gs_a G 7 0 0)), (3, .int (nI i))] [] (hp G τ)) : gx_J G mL_law (d + 20) 0 0 Q 280 [(0, .ref (G.2.2.2.1 7)), (1, .ref (gs_a G 6 0 0)), (2, .ref (gs_a G 7 0 0)), (3, .int (nI i))] [] (hp G σ) := by
  refine J_aload_n (i := 1) (n := 281) dL_law_280 rfl rfl rfl ?_
  refine J_aload_n (i := 0) (n := 282) dL_law_281 rfl rfl rfl ?_
  refine J_iload_n (i := 3) (n := 283) dL_law_282 rfl rfl rfl ?_
  refine J_iconst (n := 284) dL_law_283 kI_1 rfl ?_
  refine J_iadd (n := 285) dL_law_284 rfl ?_
  try rw [nI_add]
  refine J_sld (n := 286) dL_law_285 (vp_in_nI (by omega) (by omega)) rfl ?_
  rw [nI_clamp (by omega)]
  refine J_callVx (n := 289) wS_X6_rule (c_G_rule (Q := fun r h => r = some (.int (sp_rule S (gx_xs G (i + 1)))) ∧ ∃ τ, cR τ (S) ∧ τ 7 0 = σ 7 0 ∧ h = hp G τ) (d + 7) (gx_xs G (i + 1)) hS hc (fun τ h1 h2 => ⟨rfl, τ, h1, h2, rfl⟩)) dL_law_286 wm_L_31 ⟨wM_X6_rule, wV_X6_rule⟩ rfl (T_recv (by decide) (by decide)) rfl rfl (Nat.le_of_ble_eq_true rfl) rfl (fun r h1 hq1 => ?_)
  obtain ⟨rfl, τ, hc1, h7, rfl⟩ := hq1
  refine J_aload_n (i := 2) (n := 290) dL_law_289 rfl rfl rfl ?_
  refine J_aload_n (i := 0) (n := 291) dL_law_290 rfl rfl rfl ?_
  refine J_iload_n (i := 3) (n := 292) dL_law_291 rfl rfl rfl ?_
  refine J_iconst (n := 293) dL_law_292 kI_1 rfl ?_
  refine J_iadd (n := 294) dL_law_293 rfl ?_
  try rw [nI_add]
  refine J_sld (n := 295) dL_law_294 (vp_in_nI (by omega) (by omega)) rfl ?_
  rw [nI_clamp (by omega)]
  refine J_callVx (n := 298) wS_X7_rule (K_eta 7 0 (c_N_rule (Q := fun r h => r = some (.int (sp_rule S (gx_xs G (i + 1)))) ∧ ∃ v1, mR v1 (S) ∧ h = hp G (gs_set τ 7 0 v1)) (d + 7) (gx_xs G (i + 1)) hS (show mR (τ 7 0) S by rw [h7]; exact hm) (fun v1 h1 => ⟨rfl, v1, h1, rfl⟩))) dL_law_295 wm_L_34 ⟨wM_X7_rule, wV_X7_rule⟩ rfl (T_recv (by decide) (by decide)) rfl rfl (Nat.le_of_ble_eq_true rfl) rfl (fun r h1 hq1 => ?_)
  obtain ⟨rfl, v1, hm1, rfl⟩ := hq1
  refine J_icmp_eq (tgt := 1450) (n := 301) dL_law_298 (by decide) rfl (fun c_298 => ?_) (fun c_298 => ?_)
  · exact k1450 _ (S) hS hc1.model (by rw [gs_same]; exact hm1)
  · exact absurd rfl c_298
set_option maxHeartbeats 4000000 in
set_option maxRecDepth 100000 in
theorem jl_glove {G : gx_G} {σ : gs_S} {Q : Option Value → gx_Hp → Prop} {S : pS} (d : Nat) {i : Nat} (hi : i + 5 ≤ G.2.2.2.2 7) (hL : G.2.2.2.2 7 ≤ 320) (hS : SOk S) (hc : cR σ S) (hm : mR (σ 7 0) S) (k1450 : ∀ τ S1, SOk S1 → cR τ S1 → mR (τ 7 0) S1 → gx_J G mL_law (d + 20) 0 0 Q 1450 [(0, .ref (G.2.2.2.1 7)), (1, .ref (gs_a G 6 0 0)), (2, .ref (gs_a G 7 0 0)), (3, .int (nI i))] [] (hp G τ)) : gx_J G mL_law (d + 20) 0 0 Q 303 [(0, .ref (G.2.2.2.1 7)), (1, .ref (gs_a G 6 0 0)), (2, .ref (gs_a G 7 0 0)), (3, .int (nI i))] [] (hp G σ) := by
  refine J_aload_n (i := 1) (n := 304) dL_law_303 rfl rfl rfl ?_
  refine J_aload_n (i := 0) (n := 305) dL_law_304 rfl rfl rfl ?_
  refine J_iload_n (i := 3) (n := 306) dL_law_305 rfl rfl rfl ?_
  refine J_iconst (n := 307) dL_law_306 kI_1 rfl ?_
  refine J_iadd (n := 308) dL_law_307 rfl ?_
  try rw [nI_add]
  refine J_sld (n := 309) dL_law_308 (vp_in_nI (by omega) (by omega)) rfl ?_
  rw [nI_clamp (by omega)]
  refine J_aload_n (i := 0) (n := 310) dL_law_309 rfl rfl rfl ?_
  refine J_iload_n (i := 3) (n := 311) dL_law_310 rfl rfl rfl ?_
  refine J_iconst (n := 312) dL_law_311 kI_2 rfl ?_
  refine J_iadd (n := 313) dL_law_312 rfl ?_
  try rw [nI_add]
  refine J_sld (n := 314) dL_law_313 (vp_in_nI (by omega) (by omega)) rfl ?_
  rw [nI_clamp (by omega)]
  refine J_callVx (n := 317) wS_X6_glove (c_G_glove (Q := fun r h => r = some (.int (sp_glove S (gx_xs G (i + 1)) (gx_xs G (i + 2)))) ∧ ∃ τ, cR τ (S) ∧ τ 7 0 = σ 7 0 ∧ h = hp G τ) (d + 7) (gx_xs G (i + 1)) (gx_xs G (i + 2)) hS hc (fun τ h1 h2 => ⟨rfl, τ, h1, h2, rfl⟩)) dL_law_314 wm_L_35 ⟨wM_X6_glove, wV_X6_glove⟩ rfl (T_recv (by decide) (by decide)) rfl rfl (Nat.le_of_ble_eq_true rfl) rfl (fun r h1 hq1 => ?_)
  obtain ⟨rfl, τ, hc1, h7, rfl⟩ := hq1
  refine J_aload_n (i := 2) (n := 318) dL_law_317 rfl rfl rfl ?_
  refine J_aload_n (i := 0) (n := 319) dL_law_318 rfl rfl rfl ?_
  refine J_iload_n (i := 3) (n := 320) dL_law_319 rfl rfl rfl ?_
  refine J_iconst (n := 321) dL_law_320 kI_1 rfl ?_
  refine J_iadd (n := 322) dL_law_321 rfl ?_
  try rw [nI_add]
  refine J_sld (n := 323) dL_law_322 (vp_in_nI (by omega) (by omega)) rfl ?_
  rw [nI_clamp (by omega)]
  refine J_aload_n (i := 0) (n := 324) dL_law_323 rfl rfl rfl ?_
  refine J_iload_n (i := 3) (n := 325) dL_law_324 rfl rfl rfl ?_
  refine J_iconst (n := 326) dL_law_325 kI_2 rfl ?_
  refine J_iadd (n := 327) dL_law_326 rfl ?_
  try rw [nI_add]
  refine J_sld (n := 328) dL_law_327 (vp_in_nI (by omega) (by omega)) rfl ?_
  rw [nI_clamp (by omega)]
  refine J_callVx (n := 331) wS_X7_glove (K_eta 7 0 (c_N_glove (Q := fun r h => r = some (.int (sp_glove S (gx_xs G (i + 1)) (gx_xs G (i + 2)))) ∧ ∃ v1, mR v1 (S) ∧ h = hp G (gs_set τ 7 0 v1)) (d + 7) (gx_xs G (i + 1)) (gx_xs G (i + 2)) hS (show mR (τ 7 0) S by rw [h7]; exact hm) (fun v1 h1 => ⟨rfl, v1, h1, rfl⟩))) dL_law_328 wm_L_39 ⟨wM_X7_glove, wV_X7_glove⟩ rfl (T_recv (by decide) (by decide)) rfl rfl (Nat.le_of_ble_eq_true rfl) rfl (fun r h1 hq1 => ?_)
  obtain ⟨rfl, v1, hm1, rfl⟩ := hq1
  refine J_icmp_eq (tgt := 1450) (n := 334) dL_law_331 (by decide) rfl (fun c_331 => ?_) (fun c_331 => ?_)
  · exact k1450 _ (S) hS hc1.model (by rw [gs_same]; exact hm1)
  · exact absurd rfl c_331
set_option maxHeartbeats 4000000 in
set_option maxRecDepth 100000 in
theorem jl_door {G : gx_G} {σ : gs_S} {Q : Option Value → gx_Hp → Prop} {S : pS} (d : Nat) {i : Nat} (hi : i + 5 ≤ G.2.2.2.2 7) (hL : G.2.2.2.2 7 ≤ 320) (hS : SOk S) (hc : cR σ S) (hm : mR (σ 7 0) S) (k1450 : ∀ τ S1, SOk S1 → cR τ S1 → mR (τ 7 0) S1 → gx_J G mL_law (d + 20) 0 0 Q 1450 [(0, .ref (G.2.2.2.1 7)), (1, .ref (gs_a G 6 0 0)), (2, .ref (gs_a G 7 0 0)), (3, .int (nI i))] [] (hp G τ)) : gx_J G mL_law (d + 20) 0 0 Q 336 [(0, .ref (G.2.2.2.1 7)), (1, .ref (gs_a G 6 0 0)), (2, .ref (gs_a G 7 0 0)), (3, .int (nI i))] [] (hp G σ) := by
  refine J_aload_n (i := 1) (n := 337) dL_law_336 rfl rfl rfl ?_
  refine J_aload_n (i := 0) (n := 338) dL_law_337 rfl rfl rfl ?_
  refine J_iload_n (i := 3) (n := 339) dL_law_338 rfl rfl rfl ?_
  refine J_iconst (n := 340) dL_law_339 kI_1 rfl ?_
  refine J_iadd (n := 341) dL_law_340 rfl ?_
  try rw [nI_add]
  refine J_sld (n := 342) dL_law_341 (vp_in_nI (by omega) (by omega)) rfl ?_
  rw [nI_clamp (by omega)]
  refine J_aload_n (i := 0) (n := 343) dL_law_342 rfl rfl rfl ?_
  refine J_iload_n (i := 3) (n := 344) dL_law_343 rfl rfl rfl ?_
  refine J_iconst (n := 345) dL_law_344 kI_2 rfl ?_
  refine J_iadd (n := 346) dL_law_345 rfl ?_
  try rw [nI_add]
  refine J_sld (n := 347) dL_law_346 (vp_in_nI (by omega) (by omega)) rfl ?_
  rw [nI_clamp (by omega)]
  refine J_callVx (n := 350) wS_X6_door (c_G_door (Q := fun r h => r = some (.int (sp_door S (gx_xs G (i + 1)) (gx_xs G (i + 2)))) ∧ ∃ τ, cR τ (S) ∧ τ 7 0 = σ 7 0 ∧ h = hp G τ) (d + 7) (gx_xs G (i + 1)) (gx_xs G (i + 2)) hS hc (fun τ h1 h2 => ⟨rfl, τ, h1, h2, rfl⟩)) dL_law_347 wm_L_40 ⟨wM_X6_door, wV_X6_door⟩ rfl (T_recv (by decide) (by decide)) rfl rfl (Nat.le_of_ble_eq_true rfl) rfl (fun r h1 hq1 => ?_)
  obtain ⟨rfl, τ, hc1, h7, rfl⟩ := hq1
  refine J_aload_n (i := 2) (n := 351) dL_law_350 rfl rfl rfl ?_
  refine J_aload_n (i := 0) (n := 352) dL_law_351 rfl rfl rfl ?_
  refine J_iload_n (i := 3) (n := 353) dL_law_352 rfl rfl rfl ?_
  refine J_iconst (n := 354) dL_law_353 kI_1 rfl ?_
  refine J_iadd (n := 355) dL_law_354 rfl ?_
  try rw [nI_add]
  refine J_sld (n := 356) dL_law_355 (vp_in_nI (by omega) (by omega)) rfl ?_
  rw [nI_clamp (by omega)]
  refine J_aload_n (i := 0) (n := 357) dL_law_356 rfl rfl rfl ?_
  refine J_iload_n (i := 3) (n := 358) dL_law_357 rfl rfl rfl ?_
  refine J_iconst (n := 359) dL_law_358 kI_2 rfl ?_
  refine J_iadd (n := 360) dL_law_359 rfl ?_
  try rw [nI_add]
  refine J_sld (n := 361) dL_law_360 (vp_in_nI (by omega) (by omega)) rfl ?_
  rw [nI_clamp (by omega)]
  refine J_callVx (n := 364) wS_X7_door (K_eta 7 0 (c_N_door (Q := fun r h => r = some (.int (sp_door S (gx_xs G (i + 1)) (gx_xs G (i + 2)))) ∧ ∃ v1, mR v1 (S) ∧ h = hp G (gs_set τ 7 0 v1)) (d + 7) (gx_xs G (i + 1)) (gx_xs G (i + 2)) hS (show mR (τ 7 0) S by rw [h7]; exact hm) (fun v1 h1 => ⟨rfl, v1, h1, rfl⟩))) dL_law_361 wm_L_43 ⟨wM_X7_door, wV_X7_door⟩ rfl (T_recv (by decide) (by decide)) rfl rfl (Nat.le_of_ble_eq_true rfl) rfl (fun r h1 hq1 => ?_)
  obtain ⟨rfl, v1, hm1, rfl⟩ := hq1
  refine J_icmp_eq (tgt := 1450) (n := 367) dL_law_364 (by decide) rfl (fun c_364 => ?_) (fun c_364 => ?_)
  · exact k1450 _ (S) hS hc1.model (by rw [gs_same]; exact hm1)
  · exact absurd rfl c_364
set_option maxHeartbeats 4000000 in
set_option maxRecDepth 100000 in
theorem jl_stop {G : gx_G} {σ : gs_S} {Q : Option Value → gx_Hp → Prop} {S : pS} (d : Nat) {i : Nat} (hi : i + 5 ≤ G.2.2.2.2 7) (hL : G.2.2.2.2 7 ≤ 320) (hS : SOk S) (hc : cR σ S) (hm : mR (σ 7 0) S) (k1450 : ∀ τ S1, SOk S1 → cR τ S1 → mR (τ 7 0) S1 → gx_J G mL_law (d + 20) 0 0 Q 1450 [(0, .ref (G.2.2.2.1 7)), (1, .ref (gs_a G 6 0 0)), (2, .ref (gs_a G 7 0 0)), (3, .int (nI i))] [] (hp G τ)) : gx_J G mL_law (d + 20) 0 0 Q 369 [(0, .ref (G.2.2.2.1 7)), (1, .ref (gs_a G 6 0 0)), (2, .ref (gs_a G 7 0 0)), (3, .int (nI i))] [] (hp G σ) := by
  refine J_aload_n (i := 1) (n := 370) dL_law_369 rfl rfl rfl ?_
  refine J_aload_n (i := 0) (n := 371) dL_law_370 rfl rfl rfl ?_
  refine J_iload_n (i := 3) (n := 372) dL_law_371 rfl rfl rfl ?_
  refine J_iconst (n := 373) dL_law_372 kI_1 rfl ?_
  refine J_iadd (n := 374) dL_law_373 rfl ?_
  try rw [nI_add]
  refine J_sld (n := 375) dL_law_374 (vp_in_nI (by omega) (by omega)) rfl ?_
  rw [nI_clamp (by omega)]
  refine J_callVx (n := 378) wS_X6_stop (c_G_stop (Q := fun r h => r = some (.int (sp_stop S (gx_xs G (i + 1)))) ∧ ∃ τ, cR τ (S) ∧ τ 7 0 = σ 7 0 ∧ h = hp G τ) (d + 7) (gx_xs G (i + 1)) hS hc (fun τ h1 h2 => ⟨rfl, τ, h1, h2, rfl⟩)) dL_law_375 wm_L_44 ⟨wM_X6_stop, wV_X6_stop⟩ rfl (T_recv (by decide) (by decide)) rfl rfl (Nat.le_of_ble_eq_true rfl) rfl (fun r h1 hq1 => ?_)
  obtain ⟨rfl, τ, hc1, h7, rfl⟩ := hq1
  refine J_aload_n (i := 2) (n := 379) dL_law_378 rfl rfl rfl ?_
  refine J_aload_n (i := 0) (n := 380) dL_law_379 rfl rfl rfl ?_
  refine J_iload_n (i := 3) (n := 381) dL_law_380 rfl rfl rfl ?_
  refine J_iconst (n := 382) dL_law_381 kI_1 rfl ?_
  refine J_iadd (n := 383) dL_law_382 rfl ?_
  try rw [nI_add]
  refine J_sld (n := 384) dL_law_383 (vp_in_nI (by omega) (by omega)) rfl ?_
  rw [nI_clamp (by omega)]
  refine J_callVx (n := 387) wS_X7_stop (K_eta 7 0 (c_N_stop (Q := fun r h => r = some (.int (sp_stop S (gx_xs G (i + 1)))) ∧ ∃ v1, mR v1 (S) ∧ h = hp G (gs_set τ 7 0 v1)) (d + 7) (gx_xs G (i + 1)) hS (show mR (τ 7 0) S by rw [h7]; exact hm) (fun v1 h1 => ⟨rfl, v1, h1, rfl⟩))) dL_law_384 wm_L_47 ⟨wM_X7_stop, wV_X7_stop⟩ rfl (T_recv (by decide) (by decide)) rfl rfl (Nat.le_of_ble_eq_true rfl) rfl (fun r h1 hq1 => ?_)
  obtain ⟨rfl, v1, hm1, rfl⟩ := hq1
  refine J_icmp_eq (tgt := 1450) (n := 390) dL_law_387 (by decide) rfl (fun c_387 => ?_) (fun c_387 => ?_)
  · exact k1450 _ (S) hS hc1.model (by rw [gs_same]; exact hm1)
  · exact absurd rfl c_387
set_option maxHeartbeats 4000000 in
set_option maxRecDepth 100000 in
theorem jl_alter {G : gx_G} {σ : gs_S} {Q : Option Value → gx_Hp → Prop} {S : pS} (d : Nat) {i : Nat} (hi : i + 5 ≤ G.2.2.2.2 7) (hL : G.2.2.2.2 7 ≤ 320) (hS : SOk S) (hc : cR σ S) (hm : mR (σ 7 0) S) (k1450 : ∀ τ S1, SOk S1 → cR τ S1 → mR (τ 7 0) S1 → gx_J G mL_law (d + 20) 0 0 Q 1450 [(0, .ref (G.2.2.2.1 7)), (1, .ref (gs_a G 6 0 0)), (2, .ref (gs_a G 7 0 0)), (3, .int (nI i))] [] (hp G τ)) : gx_J G mL_law (d + 20) 0 0 Q 392 [(0, .ref (G.2.2.2.1 7)), (1, .ref (gs_a G 6 0 0)), (2, .ref (gs_a G 7 0 0)), (3, .int (nI i))] [] (hp G σ) := by
  refine J_aload_n (i := 1) (n := 393) dL_law_392 rfl rfl rfl ?_
  refine J_aload_n (i := 0) (n := 394) dL_law_393 rfl rfl rfl ?_
  refine J_iload_n (i := 3) (n := 395) dL_law_394 rfl rfl rfl ?_
  refine J_iconst (n := 396) dL_law_395 kI_1 rfl ?_
  refine J_iadd (n := 397) dL_law_396 rfl ?_
  try rw [nI_add]
  refine J_sld (n := 398) dL_law_397 (vp_in_nI (by omega) (by omega)) rfl ?_
  rw [nI_clamp (by omega)]
  refine J_aload_n (i := 0) (n := 399) dL_law_398 rfl rfl rfl ?_
  refine J_iload_n (i := 3) (n := 400) dL_law_399 rfl rfl rfl ?_
  refine J_iconst (n := 401) dL_law_400 kI_2 rfl ?_
  refine J_iadd (n := 402) dL_law_401 rfl ?_
  try rw [nI_add]
  refine J_sld (n := 403) dL_law_402 (vp_in_nI (by omega) (by omega)) rfl ?_
  rw [nI_clamp (by omega)]
  refine J_aload_n (i := 0) (n := 404) dL_law_403 rfl rfl rfl ?_
  refine J_iload_n (i := 3) (n := 405) dL_law_404 rfl rfl rfl ?_
  refine J_iconst (n := 406) dL_law_405 kI_3 rfl ?_
  refine J_iadd (n := 407) dL_law_406 rfl ?_
  try rw [nI_add]
  refine J_sld (n := 408) dL_law_407 (vp_in_nI (by omega) (by omega)) rfl ?_
  rw [nI_clamp (by omega)]
  refine J_callVx (n := 411) wS_X6_alter (c_G_alter (Q := fun r h => r = some (.int ((sp_alter S (gx_xs G (i + 1)) (gx_xs G (i + 2)) (gx_xs G (i + 3))).1)) ∧ ∃ τ, cR τ ((sp_alter S (gx_xs G (i + 1)) (gx_xs G (i + 2)) (gx_xs G (i + 3))).2) ∧ τ 7 0 = σ 7 0 ∧ h = hp G τ) (d + 7) (gx_xs G (i + 1)) (gx_xs G (i + 2)) (gx_xs G (i + 3)) hS hc (fun τ h1 h2 => ⟨rfl, τ, h1, h2, rfl⟩)) dL_law_408 wm_L_48 ⟨wM_X6_alter, wV_X6_alter⟩ rfl (T_recv (by decide) (by decide)) rfl rfl (Nat.le_of_ble_eq_true rfl) rfl (fun r h1 hq1 => ?_)
  obtain ⟨rfl, τ, hc1, h7, rfl⟩ := hq1
  refine J_aload_n (i := 2) (n := 412) dL_law_411 rfl rfl rfl ?_
  refine J_aload_n (i := 0) (n := 413) dL_law_412 rfl rfl rfl ?_
  refine J_iload_n (i := 3) (n := 414) dL_law_413 rfl rfl rfl ?_
  refine J_iconst (n := 415) dL_law_414 kI_1 rfl ?_
  refine J_iadd (n := 416) dL_law_415 rfl ?_
  try rw [nI_add]
  refine J_sld (n := 417) dL_law_416 (vp_in_nI (by omega) (by omega)) rfl ?_
  rw [nI_clamp (by omega)]
  refine J_aload_n (i := 0) (n := 418) dL_law_417 rfl rfl rfl ?_
  refine J_iload_n (i := 3) (n := 419) dL_law_418 rfl rfl rfl ?_
  refine J_iconst (n := 420) dL_law_419 kI_2 rfl ?_
  refine J_iadd (n := 421) dL_law_420 rfl ?_
  try rw [nI_add]
  refine J_sld (n := 422) dL_law_421 (vp_in_nI (by omega) (by omega)) rfl ?_
  rw [nI_clamp (by omega)]
  refine J_aload_n (i := 0) (n := 423) dL_law_422 rfl rfl rfl ?_
  refine J_iload_n (i := 3) (n := 424) dL_law_423 rfl rfl rfl ?_
  refine J_iconst (n := 425) dL_law_424 kI_3 rfl ?_
  refine J_iadd (n := 426) dL_law_425 rfl ?_
  try rw [nI_add]
  refine J_sld (n := 427) dL_law_426 (vp_in_nI (by omega) (by omega)) rfl ?_
  rw [nI_clamp (by omega)]
  refine J_callVx (n := 430) wS_X7_alter (K_eta 7 0 (c_N_alter (Q := fun r h => r = some (.int ((sp_alter S (gx_xs G (i + 1)) (gx_xs G (i + 2)) (gx_xs G (i + 3))).1)) ∧ ∃ v1, mR v1 ((sp_alter S (gx_xs G (i + 1)) (gx_xs G (i + 2)) (gx_xs G (i + 3))).2) ∧ h = hp G (gs_set τ 7 0 v1)) (d + 7) (gx_xs G (i + 1)) (gx_xs G (i + 2)) (gx_xs G (i + 3)) hS (show mR (τ 7 0) S by rw [h7]; exact hm) (fun v1 h1 => ⟨rfl, v1, h1, rfl⟩))) dL_law_427 wm_L_52 ⟨wM_X7_alter, wV_X7_alter⟩ rfl (T_recv (by decide) (by decide)) rfl rfl (Nat.le_of_ble_eq_true rfl) rfl (fun r h1 hq1 => ?_)
  obtain ⟨rfl, v1, hm1, rfl⟩ := hq1
  refine J_icmp_eq (tgt := 1450) (n := 433) dL_law_430 (by decide) rfl (fun c_430 => ?_) (fun c_430 => ?_)
  · exact k1450 _ ((sp_alter S (gx_xs G (i + 1)) (gx_xs G (i + 2)) (gx_xs G (i + 3))).2) (ok_alter hS (gx_xs G (i + 1)) (gx_xs G (i + 2)) (gx_xs G (i + 3))) hc1.model (by rw [gs_same]; exact hm1)
  · exact absurd rfl c_430
set_option maxHeartbeats 4000000 in
set_option maxRecDepth 100000 in
theorem jl_fame {G : gx_G} {σ : gs_S} {Q : Option Value → gx_Hp → Prop} {S : pS} (d : Nat) {i : Nat} (hi : i + 5 ≤ G.2.2.2.2 7) (hL : G.2.2.2.2 7 ≤ 320) (hS : SOk S) (hc : cR σ S) (hm : mR (σ 7 0) S) (k1450 : ∀ τ S1, SOk S1 → cR τ S1 → mR (τ 7 0) S1 → gx_J G mL_law (d + 20) 0 0 Q 1450 [(0, .ref (G.2.2.2.1 7)), (1, .ref (gs_a G 6 0 0)), (2, .ref (gs_a G 7 0 0)), (3, .int (nI i))] [] (hp G τ)) : gx_J G mL_law (d + 20) 0 0 Q 435 [(0, .ref (G.2.2.2.1 7)), (1, .ref (gs_a G 6 0 0)), (2, .ref (gs_a G 7 0 0)), (3, .int (nI i))] [] (hp G σ) := by
  refine J_aload_n (i := 1) (n := 436) dL_law_435 rfl rfl rfl ?_
  refine J_aload_n (i := 0) (n := 437) dL_law_436 rfl rfl rfl ?_
  refine J_iload_n (i := 3) (n := 438) dL_law_437 rfl rfl rfl ?_
  refine J_iconst (n := 439) dL_law_438 kI_1 rfl ?_
  refine J_iadd (n := 440) dL_law_439 rfl ?_
  try rw [nI_add]
  refine J_sld (n := 441) dL_law_440 (vp_in_nI (by omega) (by omega)) rfl ?_
  rw [nI_clamp (by omega)]
  refine J_aload_n (i := 0) (n := 442) dL_law_441 rfl rfl rfl ?_
  refine J_iload_n (i := 3) (n := 443) dL_law_442 rfl rfl rfl ?_
  refine J_iconst (n := 444) dL_law_443 kI_2 rfl ?_
  refine J_iadd (n := 445) dL_law_444 rfl ?_
  try rw [nI_add]
  refine J_sld (n := 446) dL_law_445 (vp_in_nI (by omega) (by omega)) rfl ?_
  rw [nI_clamp (by omega)]
  refine J_callVx (n := 449) wS_X6_fame (c_G_fame (Q := fun r h => r = some (.int ((sp_fame S (gx_xs G (i + 1)) (gx_xs G (i + 2))).1)) ∧ ∃ τ, cR τ ((sp_fame S (gx_xs G (i + 1)) (gx_xs G (i + 2))).2) ∧ τ 7 0 = σ 7 0 ∧ h = hp G τ) (d + 7) (gx_xs G (i + 1)) (gx_xs G (i + 2)) hS hc (fun τ h1 h2 => ⟨rfl, τ, h1, h2, rfl⟩)) dL_law_446 wm_L_53 ⟨wM_X6_fame, wV_X6_fame⟩ rfl (T_recv (by decide) (by decide)) rfl rfl (Nat.le_of_ble_eq_true rfl) rfl (fun r h1 hq1 => ?_)
  obtain ⟨rfl, τ, hc1, h7, rfl⟩ := hq1
  refine J_aload_n (i := 2) (n := 450) dL_law_449 rfl rfl rfl ?_
  refine J_aload_n (i := 0) (n := 451) dL_law_450 rfl rfl rfl ?_
  refine J_iload_n (i := 3) (n := 452) dL_law_451 rfl rfl rfl ?_
  refine J_iconst (n := 453) dL_law_452 kI_1 rfl ?_
  refine J_iadd (n := 454) dL_law_453 rfl ?_
  try rw [nI_add]
  refine J_sld (n := 455) dL_law_454 (vp_in_nI (by omega) (by omega)) rfl ?_
  rw [nI_clamp (by omega)]
  refine J_aload_n (i := 0) (n := 456) dL_law_455 rfl rfl rfl ?_
  refine J_iload_n (i := 3) (n := 457) dL_law_456 rfl rfl rfl ?_
  refine J_iconst (n := 458) dL_law_457 kI_2 rfl ?_
  refine J_iadd (n := 459) dL_law_458 rfl ?_
  try rw [nI_add]
  refine J_sld (n := 460) dL_law_459 (vp_in_nI (by omega) (by omega)) rfl ?_
  rw [nI_clamp (by omega)]
  refine J_callVx (n := 463) wS_X7_fame (K_eta 7 0 (c_N_fame (Q := fun r h => r = some (.int ((sp_fame S (gx_xs G (i + 1)) (gx_xs G (i + 2))).1)) ∧ ∃ v1, mR v1 ((sp_fame S (gx_xs G (i + 1)) (gx_xs G (i + 2))).2) ∧ h = hp G (gs_set τ 7 0 v1)) (d + 7) (gx_xs G (i + 1)) (gx_xs G (i + 2)) hS (show mR (τ 7 0) S by rw [h7]; exact hm) (fun v1 h1 => ⟨rfl, v1, h1, rfl⟩))) dL_law_460 wm_L_56 ⟨wM_X7_fame, wV_X7_fame⟩ rfl (T_recv (by decide) (by decide)) rfl rfl (Nat.le_of_ble_eq_true rfl) rfl (fun r h1 hq1 => ?_)
  obtain ⟨rfl, v1, hm1, rfl⟩ := hq1
  refine J_icmp_eq (tgt := 1450) (n := 466) dL_law_463 (by decide) rfl (fun c_463 => ?_) (fun c_463 => ?_)
  · exact k1450 _ ((sp_fame S (gx_xs G (i + 1)) (gx_xs G (i + 2))).2) (ok_fame hS (gx_xs G (i + 1)) (gx_xs G (i + 2))) hc1.model (by rw [gs_same]; exact hm1)
  · exact absurd rfl c_463
set_option maxHeartbeats 4000000 in
set_option maxRecDepth 100000 in
theorem jl_leave {G : gx_G} {σ : gs_S} {Q : Option Value → gx_Hp → Prop} {S : pS} (d : Nat) {i : Nat} (hi : i + 5 ≤ G.2.2.2.2 7) (hL : G.2.2.2.2 7 ≤ 320) (hS : SOk S) (hc : cR σ S) (hm : mR (σ 7 0) S) (k1450 : ∀ τ S1, SOk S1 → cR τ S1 → mR (τ 7 0) S1 → gx_J G mL_law (d + 20) 0 0 Q 1450 [(0, .ref (G.2.2.2.1 7)), (1, .ref (gs_a G 6 0 0)), (2, .ref (gs_a G 7 0 0)), (3, .int (nI i))] [] (hp G τ)) : gx_J G mL_law (d + 20) 0 0 Q 468 [(0, .ref (G.2.2.2.1 7)), (1, .ref (gs_a G 6 0 0)), (2, .ref (gs_a G 7 0 0)), (3, .int (nI i))] [] (hp G σ) := by
  refine J_aload_n (i := 1) (n := 469) dL_law_468 rfl rfl rfl ?_
  refine J_aload_n (i := 0) (n := 470) dL_law_469 rfl rfl rfl ?_
  refine J_iload_n (i := 3) (n := 471) dL_law_470 rfl rfl rfl ?_
  refine J_iconst (n := 472) dL_law_471 kI_1 rfl ?_
  refine J_iadd (n := 473) dL_law_472 rfl ?_
  try rw [nI_add]
  refine J_sld (n := 474) dL_law_473 (vp_in_nI (by omega) (by omega)) rfl ?_
  rw [nI_clamp (by omega)]
  refine J_callVx (n := 477) wS_X6_leave (c_G_leave (Q := fun r h => r = some (.int ((sp_leave S (gx_xs G (i + 1))).1)) ∧ ∃ τ, cR τ ((sp_leave S (gx_xs G (i + 1))).2) ∧ τ 7 0 = σ 7 0 ∧ h = hp G τ) (d + 7) (gx_xs G (i + 1)) hS hc (fun τ h1 h2 => ⟨rfl, τ, h1, h2, rfl⟩)) dL_law_474 wm_L_57 ⟨wM_X6_leave, wV_X6_leave⟩ rfl (T_recv (by decide) (by decide)) rfl rfl (Nat.le_of_ble_eq_true rfl) rfl (fun r h1 hq1 => ?_)
  obtain ⟨rfl, τ, hc1, h7, rfl⟩ := hq1
  refine J_aload_n (i := 2) (n := 478) dL_law_477 rfl rfl rfl ?_
  refine J_aload_n (i := 0) (n := 479) dL_law_478 rfl rfl rfl ?_
  refine J_iload_n (i := 3) (n := 480) dL_law_479 rfl rfl rfl ?_
  refine J_iconst (n := 481) dL_law_480 kI_1 rfl ?_
  refine J_iadd (n := 482) dL_law_481 rfl ?_
  try rw [nI_add]
  refine J_sld (n := 483) dL_law_482 (vp_in_nI (by omega) (by omega)) rfl ?_
  rw [nI_clamp (by omega)]
  refine J_callVx (n := 486) wS_X7_leave (K_eta 7 0 (c_N_leave (Q := fun r h => r = some (.int ((sp_leave S (gx_xs G (i + 1))).1)) ∧ ∃ v1, mR v1 ((sp_leave S (gx_xs G (i + 1))).2) ∧ h = hp G (gs_set τ 7 0 v1)) (d + 7) (gx_xs G (i + 1)) hS (show mR (τ 7 0) S by rw [h7]; exact hm) (fun v1 h1 => ⟨rfl, v1, h1, rfl⟩))) dL_law_483 wm_L_60 ⟨wM_X7_leave, wV_X7_leave⟩ rfl (T_recv (by decide) (by decide)) rfl rfl (Nat.le_of_ble_eq_true rfl) rfl (fun r h1 hq1 => ?_)
  obtain ⟨rfl, v1, hm1, rfl⟩ := hq1
  refine J_icmp_eq (tgt := 1450) (n := 489) dL_law_486 (by decide) rfl (fun c_486 => ?_) (fun c_486 => ?_)
  · exact k1450 _ ((sp_leave S (gx_xs G (i + 1))).2) (ok_leave hS (gx_xs G (i + 1))) hc1.model (by rw [gs_same]; exact hm1)
  · exact absurd rfl c_486
set_option maxHeartbeats 4000000 in
set_option maxRecDepth 100000 in
theorem jl_go {G : gx_G} {σ : gs_S} {Q : Option Value → gx_Hp → Prop} {S : pS} (d : Nat) {i : Nat} (hi : i + 5 ≤ G.2.2.2.2 7) (hL : G.2.2.2.2 7 ≤ 320) (hS : SOk S) (hc : cR σ S) (hm : mR (σ 7 0) S) (k1450 : ∀ τ S1, SOk S1 → cR τ S1 → mR (τ 7 0) S1 → gx_J G mL_law (d + 20) 0 0 Q 1450 [(0, .ref (G.2.2.2.1 7)), (1, .ref (gs_a G 6 0 0)), (2, .ref (gs_a G 7 0 0)), (3, .int (nI i))] [] (hp G τ)) : gx_J G mL_law (d + 20) 0 0 Q 491 [(0, .ref (G.2.2.2.1 7)), (1, .ref (gs_a G 6 0 0)), (2, .ref (gs_a G 7 0 0)), (3, .int (nI i))] [] (hp G σ) := by
  refine J_aload_n (i := 1) (n := 492) dL_law_491 rfl rfl rfl ?_
  refine J_aload_n (i := 0) (n := 493) dL_law_492 rfl rfl rfl ?_
  refine J_iload_n (i := 3) (n := 494) dL_law_493 rfl rfl rfl ?_
  refine J_iconst (n := 495) dL_law_494 kI_1 rfl ?_
  refine J_iadd (n := 496) dL_law_495 rfl ?_
  try rw [nI_add]
  refine J_sld (n := 497) dL_law_496 (vp_in_nI (by omega) (by omega)) rfl ?_
  rw [nI_clamp (by omega)]
  refine J_callVx (n := 500) wS_X6_go (c_G_go (Q := fun r h => r = some (.int ((sp_go S (gx_xs G (i + 1))).1)) ∧ ∃ τ, cR τ ((sp_go S (gx_xs G (i + 1))).2) ∧ τ 7 0 = σ 7 0 ∧ h = hp G τ) (d + 7) (gx_xs G (i + 1)) hS hc (fun τ h1 h2 => ⟨rfl, τ, h1, h2, rfl⟩)) dL_law_497 wm_L_61 ⟨wM_X6_go, wV_X6_go⟩ rfl (T_recv (by decide) (by decide)) rfl rfl (Nat.le_of_ble_eq_true rfl) rfl (fun r h1 hq1 => ?_)
  obtain ⟨rfl, τ, hc1, h7, rfl⟩ := hq1
  refine J_aload_n (i := 2) (n := 501) dL_law_500 rfl rfl rfl ?_
  refine J_aload_n (i := 0) (n := 502) dL_law_501 rfl rfl rfl ?_
  refine J_iload_n (i := 3) (n := 503) dL_law_502 rfl rfl rfl ?_
  refine J_iconst (n := 504) dL_law_503 kI_1 rfl ?_
  refine J_iadd (n := 505) dL_law_504 rfl ?_
  try rw [nI_add]
  refine J_sld (n := 506) dL_law_505 (vp_in_nI (by omega) (by omega)) rfl ?_
  rw [nI_clamp (by omega)]
  refine J_callVx (n := 509) wS_X7_go (K_eta 7 0 (c_N_go (Q := fun r h => r = some (.int ((sp_go S (gx_xs G (i + 1))).1)) ∧ ∃ v1, mR v1 ((sp_go S (gx_xs G (i + 1))).2) ∧ h = hp G (gs_set τ 7 0 v1)) (d + 7) (gx_xs G (i + 1)) hS (show mR (τ 7 0) S by rw [h7]; exact hm) (fun v1 h1 => ⟨rfl, v1, h1, rfl⟩))) dL_law_506 wm_L_64 ⟨wM_X7_go, wV_X7_go⟩ rfl (T_recv (by decide) (by decide)) rfl rfl (Nat.le_of_ble_eq_true rfl) rfl (fun r h1 hq1 => ?_)
  obtain ⟨rfl, v1, hm1, rfl⟩ := hq1
  refine J_icmp_eq (tgt := 1450) (n := 512) dL_law_509 (by decide) rfl (fun c_509 => ?_) (fun c_509 => ?_)
  · exact k1450 _ ((sp_go S (gx_xs G (i + 1))).2) (ok_go hS (gx_xs G (i + 1))) hc1.model (by rw [gs_same]; exact hm1)
  · exact absurd rfl c_509
set_option maxHeartbeats 4000000 in
set_option maxRecDepth 100000 in
theorem jl_call {G : gx_G} {σ : gs_S} {Q : Option Value → gx_Hp → Prop} {S : pS} (d : Nat) {i : Nat} (hi : i + 5 ≤ G.2.2.2.2 7) (hL : G.2.2.2.2 7 ≤ 320) (hS : SOk S) (hc : cR σ S) (hm : mR (σ 7 0) S) (k1450 : ∀ τ S1, SOk S1 → cR τ S1 → mR (τ 7 0) S1 → gx_J G mL_law (d + 20) 0 0 Q 1450 [(0, .ref (G.2.2.2.1 7)), (1, .ref (gs_a G 6 0 0)), (2, .ref (gs_a G 7 0 0)), (3, .int (nI i))] [] (hp G τ)) : gx_J G mL_law (d + 20) 0 0 Q 514 [(0, .ref (G.2.2.2.1 7)), (1, .ref (gs_a G 6 0 0)), (2, .ref (gs_a G 7 0 0)), (3, .int (nI i))] [] (hp G σ) := by
  refine J_aload_n (i := 1) (n := 515) dL_law_514 rfl rfl rfl ?_
  refine J_aload_n (i := 0) (n := 516) dL_law_515 rfl rfl rfl ?_
  refine J_iload_n (i := 3) (n := 517) dL_law_516 rfl rfl rfl ?_
  refine J_iconst (n := 518) dL_law_517 kI_1 rfl ?_
  refine J_iadd (n := 519) dL_law_518 rfl ?_
  try rw [nI_add]
  refine J_sld (n := 520) dL_law_519 (vp_in_nI (by omega) (by omega)) rfl ?_
  rw [nI_clamp (by omega)]
  refine J_callVx (n := 523) wS_X6_call (c_G_call (Q := fun r h => r = some (.int ((sp_call S (gx_xs G (i + 1))).1)) ∧ ∃ τ, cR τ ((sp_call S (gx_xs G (i + 1))).2) ∧ τ 7 0 = σ 7 0 ∧ h = hp G τ) (d + 7) (gx_xs G (i + 1)) hS hc (fun τ h1 h2 => ⟨rfl, τ, h1, h2, rfl⟩)) dL_law_520 wm_L_65 ⟨wM_X6_call, wV_X6_call⟩ rfl (T_recv (by decide) (by decide)) rfl rfl (Nat.le_of_ble_eq_true rfl) rfl (fun r h1 hq1 => ?_)
  obtain ⟨rfl, τ, hc1, h7, rfl⟩ := hq1
  refine J_aload_n (i := 2) (n := 524) dL_law_523 rfl rfl rfl ?_
  refine J_aload_n (i := 0) (n := 525) dL_law_524 rfl rfl rfl ?_
  refine J_iload_n (i := 3) (n := 526) dL_law_525 rfl rfl rfl ?_
  refine J_iconst (n := 527) dL_law_526 kI_1 rfl ?_
  refine J_iadd (n := 528) dL_law_527 rfl ?_
  try rw [nI_add]
  refine J_sld (n := 529) dL_law_528 (vp_in_nI (by omega) (by omega)) rfl ?_
  rw [nI_clamp (by omega)]
  refine J_callVx (n := 532) wS_X7_call (K_eta 7 0 (c_N_call (Q := fun r h => r = some (.int ((sp_call S (gx_xs G (i + 1))).1)) ∧ ∃ v1, mR v1 ((sp_call S (gx_xs G (i + 1))).2) ∧ h = hp G (gs_set τ 7 0 v1)) (d + 7) (gx_xs G (i + 1)) hS (show mR (τ 7 0) S by rw [h7]; exact hm) (fun v1 h1 => ⟨rfl, v1, h1, rfl⟩))) dL_law_529 wm_L_68 ⟨wM_X7_call, wV_X7_call⟩ rfl (T_recv (by decide) (by decide)) rfl rfl (Nat.le_of_ble_eq_true rfl) rfl (fun r h1 hq1 => ?_)
  obtain ⟨rfl, v1, hm1, rfl⟩ := hq1
  refine J_icmp_eq (tgt := 1450) (n := 535) dL_law_532 (by decide) rfl (fun c_532 => ?_) (fun c_532 => ?_)
  · exact k1450 _ ((sp_call S (gx_xs G (i + 1))).2) (ok_call hS (gx_xs G (i + 1))) hc1.model (by rw [gs_same]; exact hm1)
  · exact absurd rfl c_532
set_option maxHeartbeats 4000000 in
set_option maxRecDepth 100000 in
theorem jl_cut {G : gx_G} {σ : gs_S} {Q : Option Value → gx_Hp → Prop} {S : pS} (d : Nat) {i : Nat} (hi : i + 5 ≤ G.2.2.2.2 7) (hL : G.2.2.2.2 7 ≤ 320) (hS : SOk S) (hc : cR σ S) (hm : mR (σ 7 0) S) (k1450 : ∀ τ S1, SOk S1 → cR τ S1 → mR (τ 7 0) S1 → gx_J G mL_law (d + 20) 0 0 Q 1450 [(0, .ref (G.2.2.2.1 7)), (1, .ref (gs_a G 6 0 0)), (2, .ref (gs_a G 7 0 0)), (3, .int (nI i))] [] (hp G τ)) : gx_J G mL_law (d + 20) 0 0 Q 537 [(0, .ref (G.2.2.2.1 7)), (1, .ref (gs_a G 6 0 0)), (2, .ref (gs_a G 7 0 0)), (3, .int (nI i))] [] (hp G σ) := by
  refine J_aload_n (i := 1) (n := 538) dL_law_537 rfl rfl rfl ?_
  refine J_aload_n (i := 0) (n := 539) dL_law_538 rfl rfl rfl ?_
  refine J_iload_n (i := 3) (n := 540) dL_law_539 rfl rfl rfl ?_
  refine J_iconst (n := 541) dL_law_540 kI_1 rfl ?_
  refine J_iadd (n := 542) dL_law_541 rfl ?_
  try rw [nI_add]
  refine J_sld (n := 543) dL_law_542 (vp_in_nI (by omega) (by omega)) rfl ?_
  rw [nI_clamp (by omega)]
  refine J_callVx (n := 546) wS_X6_cut (c_G_cut (Q := fun r h => r = some (.int ((sp_cut S (gx_xs G (i + 1))).1)) ∧ ∃ τ, cR τ ((sp_cut S (gx_xs G (i + 1))).2) ∧ τ 7 0 = σ 7 0 ∧ h = hp G τ) (d + 7) (gx_xs G (i + 1)) hS hc (fun τ h1 h2 => ⟨rfl, τ, h1, h2, rfl⟩)) dL_law_543 wm_L_69 ⟨wM_X6_cut, wV_X6_cut⟩ rfl (T_recv (by decide) (by decide)) rfl rfl (Nat.le_of_ble_eq_true rfl) rfl (fun r h1 hq1 => ?_)
  obtain ⟨rfl, τ, hc1, h7, rfl⟩ := hq1
  refine J_aload_n (i := 2) (n := 547) dL_law_546 rfl rfl rfl ?_
  refine J_aload_n (i := 0) (n := 548) dL_law_547 rfl rfl rfl ?_
  refine J_iload_n (i := 3) (n := 549) dL_law_548 rfl rfl rfl ?_
  refine J_iconst (n := 550) dL_law_549 kI_1 rfl ?_
  refine J_iadd (n := 551) dL_law_550 rfl ?_
  try rw [nI_add]
  refine J_sld (n := 552) dL_law_551 (vp_in_nI (by omega) (by omega)) rfl ?_
  rw [nI_clamp (by omega)]
  refine J_callVx (n := 555) wS_X7_cut (K_eta 7 0 (c_N_cut (Q := fun r h => r = some (.int ((sp_cut S (gx_xs G (i + 1))).1)) ∧ ∃ v1, mR v1 ((sp_cut S (gx_xs G (i + 1))).2) ∧ h = hp G (gs_set τ 7 0 v1)) (d + 7) (gx_xs G (i + 1)) hS (show mR (τ 7 0) S by rw [h7]; exact hm) (fun v1 h1 => ⟨rfl, v1, h1, rfl⟩))) dL_law_552 wm_L_72 ⟨wM_X7_cut, wV_X7_cut⟩ rfl (T_recv (by decide) (by decide)) rfl rfl (Nat.le_of_ble_eq_true rfl) rfl (fun r h1 hq1 => ?_)
  obtain ⟨rfl, v1, hm1, rfl⟩ := hq1
  refine J_icmp_eq (tgt := 1450) (n := 558) dL_law_555 (by decide) rfl (fun c_555 => ?_) (fun c_555 => ?_)
  · exact k1450 _ ((sp_cut S (gx_xs G (i + 1))).2) (ok_cut hS (gx_xs G (i + 1))) hc1.model (by rw [gs_same]; exact hm1)
  · exact absurd rfl c_555
set_option maxHeartbeats 4000000 in
set_option maxRecDepth 100000 in
theorem jl_days {G : gx_G} {σ : gs_S} {Q : Option Value → gx_Hp → Prop} {S : pS} (d : Nat) {i : Nat} (hi : i + 5 ≤ G.2.2.2.2 7) (hL : G.2.2.2.2 7 ≤ 320) (hS : SOk S) (hc : cR σ S) (hm : mR (σ 7 0) S) (k1450 : ∀ τ S1, SOk S1 → cR τ S1 → mR (τ 7 0) S1 → gx_J G mL_law (d + 20) 0 0 Q 1450 [(0, .ref (G.2.2.2.1 7)), (1, .ref (gs_a G 6 0 0)), (2, .ref (gs_a G 7 0 0)), (3, .int (nI i))] [] (hp G τ)) : gx_J G mL_law (d + 20) 0 0 Q 560 [(0, .ref (G.2.2.2.1 7)), (1, .ref (gs_a G 6 0 0)), (2, .ref (gs_a G 7 0 0)), (3, .int (nI i))] [] (hp G σ) := by
  refine J_aload_n (i := 1) (n := 561) dL_law_560 rfl rfl rfl ?_
  refine J_aload_n (i := 0) (n := 562) dL_law_561 rfl rfl rfl ?_
  refine J_iload_n (i := 3) (n := 563) dL_law_562 rfl rfl rfl ?_
  refine J_iconst (n := 564) dL_law_563 kI_1 rfl ?_
  refine J_iadd (n := 565) dL_law_564 rfl ?_
  try rw [nI_add]
  refine J_sld (n := 566) dL_law_565 (vp_in_nI (by omega) (by omega)) rfl ?_
  rw [nI_clamp (by omega)]
  refine J_callVx (n := 569) wS_X6_days (c_G_days (Q := fun r h => r = some (.int ((sp_days S (gx_xs G (i + 1))).1)) ∧ ∃ τ, cR τ ((sp_days S (gx_xs G (i + 1))).2) ∧ τ 7 0 = σ 7 0 ∧ h = hp G τ) (d + 7) (gx_xs G (i + 1)) hS hc (fun τ h1 h2 => ⟨rfl, τ, h1, h2, rfl⟩)) dL_law_566 wm_L_73 ⟨wM_X6_days, wV_X6_days⟩ rfl (T_recv (by decide) (by decide)) rfl rfl (Nat.le_of_ble_eq_true rfl) rfl (fun r h1 hq1 => ?_)
  obtain ⟨rfl, τ, hc1, h7, rfl⟩ := hq1
  refine J_aload_n (i := 2) (n := 570) dL_law_569 rfl rfl rfl ?_
  refine J_aload_n (i := 0) (n := 571) dL_law_570 rfl rfl rfl ?_
  refine J_iload_n (i := 3) (n := 572) dL_law_571 rfl rfl rfl ?_
  refine J_iconst (n := 573) dL_law_572 kI_1 rfl ?_
  refine J_iadd (n := 574) dL_law_573 rfl ?_
  try rw [nI_add]
  refine J_sld (n := 575) dL_law_574 (vp_in_nI (by omega) (by omega)) rfl ?_
  rw [nI_clamp (by omega)]
  refine J_callVx (n := 578) wS_X7_days (K_eta 7 0 (c_N_days (Q := fun r h => r = some (.int ((sp_days S (gx_xs G (i + 1))).1)) ∧ ∃ v1, mR v1 ((sp_days S (gx_xs G (i + 1))).2) ∧ h = hp G (gs_set τ 7 0 v1)) (d + 7) (gx_xs G (i + 1)) hS (show mR (τ 7 0) S by rw [h7]; exact hm) (fun v1 h1 => ⟨rfl, v1, h1, rfl⟩))) dL_law_575 wm_L_76 ⟨wM_X7_days, wV_X7_days⟩ rfl (T_recv (by decide) (by decide)) rfl rfl (Nat.le_of_ble_eq_true rfl) rfl (fun r h1 hq1 => ?_)
  obtain ⟨rfl, v1, hm1, rfl⟩ := hq1
  refine J_icmp_eq (tgt := 1450) (n := 581) dL_law_578 (by decide) rfl (fun c_578 => ?_) (fun c_578 => ?_)
  · exact k1450 _ ((sp_days S (gx_xs G (i + 1))).2) (ok_days hS (gx_xs G (i + 1))) hc1.model (by rw [gs_same]; exact hm1)
  · exact absurd rfl c_578
set_option maxHeartbeats 4000000 in
set_option maxRecDepth 100000 in
theorem jl_runs {G : gx_G} {σ : gs_S} {Q : Option Value → gx_Hp → Prop} {S : pS} (d : Nat) {i : Nat} (hi : i + 5 ≤ G.2.2.2.2 7) (hL : G.2.2.2.2 7 ≤ 320) (hS : SOk S) (hc : cR σ S) (hm : mR (σ 7 0) S) (k1450 : ∀ τ S1, SOk S1 → cR τ S1 → mR (τ 7 0) S1 → gx_J G mL_law (d + 20) 0 0 Q 1450 [(0, .ref (G.2.2.2.1 7)), (1, .ref (gs_a G 6 0 0)), (2, .ref (gs_a G 7 0 0)), (3, .int (nI i))] [] (hp G τ)) : gx_J G mL_law (d + 20) 0 0 Q 583 [(0, .ref (G.2.2.2.1 7)), (1, .ref (gs_a G 6 0 0)), (2, .ref (gs_a G 7 0 0)), (3, .int (nI i))] [] (hp G σ) := by
  refine J_aload_n (i := 1) (n := 584) dL_law_583 rfl rfl rfl ?_
  refine J_aload_n (i := 0) (n := 585) dL_law_584 rfl rfl rfl ?_
  refine J_iload_n (i := 3) (n := 586) dL_law_585 rfl rfl rfl ?_
  refine J_iconst (n := 587) dL_law_586 kI_1 rfl ?_
  refine J_iadd (n := 588) dL_law_587 rfl ?_
  try rw [nI_add]
  refine J_sld (n := 589) dL_law_588 (vp_in_nI (by omega) (by omega)) rfl ?_
  rw [nI_clamp (by omega)]
  refine J_aload_n (i := 0) (n := 590) dL_law_589 rfl rfl rfl ?_
  refine J_iload_n (i := 3) (n := 591) dL_law_590 rfl rfl rfl ?_
  refine J_iconst (n := 592) dL_law_591 kI_2 rfl ?_
  refine J_iadd (n := 593) dL_law_592 rfl ?_
  try rw [nI_add]
  refine J_sld (n := 594) dL_law_593 (vp_in_nI (by omega) (by omega)) rfl ?_
  rw [nI_clamp (by omega)]
  refine J_callVx (n := 597) wS_X6_runs (c_G_runs (Q := fun r h => r = some (.int (sp_runs S (gx_xs G (i + 1)) (gx_xs G (i + 2)))) ∧ ∃ τ, cR τ (S) ∧ τ 7 0 = σ 7 0 ∧ h = hp G τ) (d + 7) (gx_xs G (i + 1)) (gx_xs G (i + 2)) hS hc (fun τ h1 h2 => ⟨rfl, τ, h1, h2, rfl⟩)) dL_law_594 wm_L_77 ⟨wM_X6_runs, wV_X6_runs⟩ rfl (T_recv (by decide) (by decide)) rfl rfl (Nat.le_of_ble_eq_true rfl) rfl (fun r h1 hq1 => ?_)
  obtain ⟨rfl, τ, hc1, h7, rfl⟩ := hq1
  refine J_aload_n (i := 2) (n := 598) dL_law_597 rfl rfl rfl ?_
  refine J_aload_n (i := 0) (n := 599) dL_law_598 rfl rfl rfl ?_
  refine J_iload_n (i := 3) (n := 600) dL_law_599 rfl rfl rfl ?_
  refine J_iconst (n := 601) dL_law_600 kI_1 rfl ?_
  refine J_iadd (n := 602) dL_law_601 rfl ?_
  try rw [nI_add]
  refine J_sld (n := 603) dL_law_602 (vp_in_nI (by omega) (by omega)) rfl ?_
  rw [nI_clamp (by omega)]
  refine J_aload_n (i := 0) (n := 604) dL_law_603 rfl rfl rfl ?_
  refine J_iload_n (i := 3) (n := 605) dL_law_604 rfl rfl rfl ?_
  refine J_iconst (n := 606) dL_law_605 kI_2 rfl ?_
  refine J_iadd (n := 607) dL_law_606 rfl ?_
  try rw [nI_add]
  refine J_sld (n := 608) dL_law_607 (vp_in_nI (by omega) (by omega)) rfl ?_
  rw [nI_clamp (by omega)]
  refine J_callVx (n := 611) wS_X7_runs (K_eta 7 0 (c_N_runs (Q := fun r h => r = some (.int (sp_runs S (gx_xs G (i + 1)) (gx_xs G (i + 2)))) ∧ ∃ v1, mR v1 (S) ∧ h = hp G (gs_set τ 7 0 v1)) (d + 7) (gx_xs G (i + 1)) (gx_xs G (i + 2)) hS (show mR (τ 7 0) S by rw [h7]; exact hm) (fun v1 h1 => ⟨rfl, v1, h1, rfl⟩))) dL_law_608 wm_L_80 ⟨wM_X7_runs, wV_X7_runs⟩ rfl (T_recv (by decide) (by decide)) rfl rfl (Nat.le_of_ble_eq_true rfl) rfl (fun r h1 hq1 => ?_)
  obtain ⟨rfl, v1, hm1, rfl⟩ := hq1
  refine J_icmp_eq (tgt := 1450) (n := 614) dL_law_611 (by decide) rfl (fun c_611 => ?_) (fun c_611 => ?_)
  · exact k1450 _ (S) hS hc1.model (by rw [gs_same]; exact hm1)
  · exact absurd rfl c_611
set_option maxHeartbeats 4000000 in
set_option maxRecDepth 100000 in
theorem jl_ahead {G : gx_G} {σ : gs_S} {Q : Option Value → gx_Hp → Prop} {S : pS} (d : Nat) {i : Nat} (hi : i + 5 ≤ G.2.2.2.2 7) (hL : G.2.2.2.2 7 ≤ 320) (hS : SOk S) (hc : cR σ S) (hm : mR (σ 7 0) S) (k1450 : ∀ τ S1, SOk S1 → cR τ S1 → mR (τ 7 0) S1 → gx_J G mL_law (d + 20) 0 0 Q 1450 [(0, .ref (G.2.2.2.1 7)), (1, .ref (gs_a G 6 0 0)), (2, .ref (gs_a G 7 0 0)), (3, .int (nI i))] [] (hp G τ)) : gx_J G mL_law (d + 20) 0 0 Q 616 [(0, .ref (G.2.2.2.1 7)), (1, .ref (gs_a G 6 0 0)), (2, .ref (gs_a G 7 0 0)), (3, .int (nI i))] [] (hp G σ) := by
  refine J_aload_n (i := 1) (n := 617) dL_law_616 rfl rfl rfl ?_
  refine J_aload_n (i := 0) (n := 618) dL_law_617 rfl rfl rfl ?_
  refine J_iload_n (i := 3) (n := 619) dL_law_618 rfl rfl rfl ?_
  refine J_iconst (n := 620) dL_law_619 kI_1 rfl ?_
  refine J_iadd (n := 621) dL_law_620 rfl ?_
  try rw [nI_add]
  refine J_sld (n := 622) dL_law_621 (vp_in_nI (by omega) (by omega)) rfl ?_
  rw [nI_clamp (by omega)]
  refine J_aload_n (i := 0) (n := 623) dL_law_622 rfl rfl rfl ?_
  refine J_iload_n (i := 3) (n := 624) dL_law_623 rfl rfl rfl ?_
  refine J_iconst (n := 625) dL_law_624 kI_2 rfl ?_
  refine J_iadd (n := 626) dL_law_625 rfl ?_
  try rw [nI_add]
  refine J_sld (n := 627) dL_law_626 (vp_in_nI (by omega) (by omega)) rfl ?_
  rw [nI_clamp (by omega)]
  refine J_aload_n (i := 0) (n := 628) dL_law_627 rfl rfl rfl ?_
  refine J_iload_n (i := 3) (n := 629) dL_law_628 rfl rfl rfl ?_
  refine J_iconst (n := 630) dL_law_629 kI_3 rfl ?_
  refine J_iadd (n := 631) dL_law_630 rfl ?_
  try rw [nI_add]
  refine J_sld (n := 632) dL_law_631 (vp_in_nI (by omega) (by omega)) rfl ?_
  rw [nI_clamp (by omega)]
  refine J_callVx (n := 635) wS_X6_ahead (c_G_ahead (Q := fun r h => r = some (.int (sp_ahead S (gx_xs G (i + 1)) (gx_xs G (i + 2)) (gx_xs G (i + 3)))) ∧ ∃ τ, cR τ (S) ∧ τ 7 0 = σ 7 0 ∧ h = hp G τ) (d + 7) (gx_xs G (i + 1)) (gx_xs G (i + 2)) (gx_xs G (i + 3)) hS hc (fun τ h1 h2 => ⟨rfl, τ, h1, h2, rfl⟩)) dL_law_632 wm_L_81 ⟨wM_X6_ahead, wV_X6_ahead⟩ rfl (T_recv (by decide) (by decide)) rfl rfl (Nat.le_of_ble_eq_true rfl) rfl (fun r h1 hq1 => ?_)
  obtain ⟨rfl, τ, hc1, h7, rfl⟩ := hq1
  refine J_aload_n (i := 2) (n := 636) dL_law_635 rfl rfl rfl ?_
  refine J_aload_n (i := 0) (n := 637) dL_law_636 rfl rfl rfl ?_
  refine J_iload_n (i := 3) (n := 638) dL_law_637 rfl rfl rfl ?_
  refine J_iconst (n := 639) dL_law_638 kI_1 rfl ?_
  refine J_iadd (n := 640) dL_law_639 rfl ?_
  try rw [nI_add]
  refine J_sld (n := 641) dL_law_640 (vp_in_nI (by omega) (by omega)) rfl ?_
  rw [nI_clamp (by omega)]
  refine J_aload_n (i := 0) (n := 642) dL_law_641 rfl rfl rfl ?_
  refine J_iload_n (i := 3) (n := 643) dL_law_642 rfl rfl rfl ?_
  refine J_iconst (n := 644) dL_law_643 kI_2 rfl ?_
  refine J_iadd (n := 645) dL_law_644 rfl ?_
  try rw [nI_add]
  refine J_sld (n := 646) dL_law_645 (vp_in_nI (by omega) (by omega)) rfl ?_
  rw [nI_clamp (by omega)]
  refine J_aload_n (i := 0) (n := 647) dL_law_646 rfl rfl rfl ?_
  refine J_iload_n (i := 3) (n := 648) dL_law_647 rfl rfl rfl ?_
  refine J_iconst (n := 649) dL_law_648 kI_3 rfl ?_
  refine J_iadd (n := 650) dL_law_649 rfl ?_
  try rw [nI_add]
  refine J_sld (n := 651) dL_law_650 (vp_in_nI (by omega) (by omega)) rfl ?_
  rw [nI_clamp (by omega)]
  refine J_callVx (n := 654) wS_X7_ahead (K_eta 7 0 (c_N_ahead (Q := fun r h => r = some (.int (sp_ahead S (gx_xs G (i + 1)) (gx_xs G (i + 2)) (gx_xs G (i + 3)))) ∧ ∃ v1, mR v1 (S) ∧ h = hp G (gs_set τ 7 0 v1)) (d + 7) (gx_xs G (i + 1)) (gx_xs G (i + 2)) (gx_xs G (i + 3)) hS (show mR (τ 7 0) S by rw [h7]; exact hm) (fun v1 h1 => ⟨rfl, v1, h1, rfl⟩))) dL_law_651 wm_L_84 ⟨wM_X7_ahead, wV_X7_ahead⟩ rfl (T_recv (by decide) (by decide)) rfl rfl (Nat.le_of_ble_eq_true rfl) rfl (fun r h1 hq1 => ?_)
  obtain ⟨rfl, v1, hm1, rfl⟩ := hq1
  refine J_icmp_eq (tgt := 1450) (n := 657) dL_law_654 (by decide) rfl (fun c_654 => ?_) (fun c_654 => ?_)
  · exact k1450 _ (S) hS hc1.model (by rw [gs_same]; exact hm1)
  · exact absurd rfl c_654
set_option maxHeartbeats 4000000 in
set_option maxRecDepth 100000 in
theorem jl_meets {G : gx_G} {σ : gs_S} {Q : Option Value → gx_Hp → Prop} {S : pS} (d : Nat) {i : Nat} (hi : i + 5 ≤ G.2.2.2.2 7) (hL : G.2.2.2.2 7 ≤ 320) (hS : SOk S) (hc : cR σ S) (hm : mR (σ 7 0) S) (k1450 : ∀ τ S1, SOk S1 → cR τ S1 → mR (τ 7 0) S1 → gx_J G mL_law (d + 20) 0 0 Q 1450 [(0, .ref (G.2.2.2.1 7)), (1, .ref (gs_a G 6 0 0)), (2, .ref (gs_a G 7 0 0)), (3, .int (nI i))] [] (hp G τ)) : gx_J G mL_law (d + 20) 0 0 Q 659 [(0, .ref (G.2.2.2.1 7)), (1, .ref (gs_a G 6 0 0)), (2, .ref (gs_a G 7 0 0)), (3, .int (nI i))] [] (hp G σ) := by
  refine J_aload_n (i := 1) (n := 660) dL_law_659 rfl rfl rfl ?_
  refine J_aload_n (i := 0) (n := 661) dL_law_660 rfl rfl rfl ?_
  refine J_iload_n (i := 3) (n := 662) dL_law_661 rfl rfl rfl ?_
  refine J_iconst (n := 663) dL_law_662 kI_1 rfl ?_
  refine J_iadd (n := 664) dL_law_663 rfl ?_
  try rw [nI_add]
  refine J_sld (n := 665) dL_law_664 (vp_in_nI (by omega) (by omega)) rfl ?_
  rw [nI_clamp (by omega)]
  refine J_callVx (n := 668) wS_X6_meets (c_G_meets (Q := fun r h => r = some (.int (sp_meets S (gx_xs G (i + 1)))) ∧ ∃ τ, cR τ (S) ∧ τ 7 0 = σ 7 0 ∧ h = hp G τ) (d + 7) (gx_xs G (i + 1)) hS hc (fun τ h1 h2 => ⟨rfl, τ, h1, h2, rfl⟩)) dL_law_665 wm_L_85 ⟨wM_X6_meets, wV_X6_meets⟩ rfl (T_recv (by decide) (by decide)) rfl rfl (Nat.le_of_ble_eq_true rfl) rfl (fun r h1 hq1 => ?_)
  obtain ⟨rfl, τ, hc1, h7, rfl⟩ := hq1
  refine J_aload_n (i := 2) (n := 669) dL_law_668 rfl rfl rfl ?_
  refine J_aload_n (i := 0) (n := 670) dL_law_669 rfl rfl rfl ?_
  refine J_iload_n (i := 3) (n := 671) dL_law_670 rfl rfl rfl ?_
  refine J_iconst (n := 672) dL_law_671 kI_1 rfl ?_
  refine J_iadd (n := 673) dL_law_672 rfl ?_
  try rw [nI_add]
  refine J_sld (n := 674) dL_law_673 (vp_in_nI (by omega) (by omega)) rfl ?_
  rw [nI_clamp (by omega)]
  refine J_callVx (n := 677) wS_X7_meets (K_eta 7 0 (c_N_meets (Q := fun r h => r = some (.int (sp_meets S (gx_xs G (i + 1)))) ∧ ∃ v1, mR v1 (S) ∧ h = hp G (gs_set τ 7 0 v1)) (d + 7) (gx_xs G (i + 1)) hS (show mR (τ 7 0) S by rw [h7]; exact hm) (fun v1 h1 => ⟨rfl, v1, h1, rfl⟩))) dL_law_674 wm_L_88 ⟨wM_X7_meets, wV_X7_meets⟩ rfl (T_recv (by decide) (by decide)) rfl rfl (Nat.le_of_ble_eq_true rfl) rfl (fun r h1 hq1 => ?_)
  obtain ⟨rfl, v1, hm1, rfl⟩ := hq1
  refine J_icmp_eq (tgt := 1450) (n := 680) dL_law_677 (by decide) rfl (fun c_677 => ?_) (fun c_677 => ?_)
  · exact k1450 _ (S) hS hc1.model (by rw [gs_same]; exact hm1)
  · exact absurd rfl c_677
set_option maxHeartbeats 4000000 in
set_option maxRecDepth 100000 in
theorem jl_place {G : gx_G} {σ : gs_S} {Q : Option Value → gx_Hp → Prop} {S : pS} (d : Nat) {i : Nat} (hi : i + 5 ≤ G.2.2.2.2 7) (hL : G.2.2.2.2 7 ≤ 320) (hS : SOk S) (hc : cR σ S) (hm : mR (σ 7 0) S) (k1450 : ∀ τ S1, SOk S1 → cR τ S1 → mR (τ 7 0) S1 → gx_J G mL_law (d + 20) 0 0 Q 1450 [(0, .ref (G.2.2.2.1 7)), (1, .ref (gs_a G 6 0 0)), (2, .ref (gs_a G 7 0 0)), (3, .int (nI i))] [] (hp G τ)) : gx_J G mL_law (d + 20) 0 0 Q 682 [(0, .ref (G.2.2.2.1 7)), (1, .ref (gs_a G 6 0 0)), (2, .ref (gs_a G 7 0 0)), (3, .int (nI i))] [] (hp G σ) := by
  refine J_aload_n (i := 1) (n := 683) dL_law_682 rfl rfl rfl ?_
  refine J_aload_n (i := 0) (n := 684) dL_law_683 rfl rfl rfl ?_
  refine J_iload_n (i := 3) (n := 685) dL_law_684 rfl rfl rfl ?_
  refine J_iconst (n := 686) dL_law_685 kI_1 rfl ?_
  refine J_iadd (n := 687) dL_law_686 rfl ?_
  try rw [nI_add]
  refine J_sld (n := 688) dL_law_687 (vp_in_nI (by omega) (by omega)) rfl ?_
  rw [nI_clamp (by omega)]
  refine J_aload_n (i := 0) (n := 689) dL_law_688 rfl rfl rfl ?_
  refine J_iload_n (i := 3) (n := 690) dL_law_689 rfl rfl rfl ?_
  refine J_iconst (n := 691) dL_law_690 kI_2 rfl ?_
  refine J_iadd (n := 692) dL_law_691 rfl ?_
  try rw [nI_add]
  refine J_sld (n := 693) dL_law_692 (vp_in_nI (by omega) (by omega)) rfl ?_
  rw [nI_clamp (by omega)]
  refine J_aload_n (i := 0) (n := 694) dL_law_693 rfl rfl rfl ?_
  refine J_iload_n (i := 3) (n := 695) dL_law_694 rfl rfl rfl ?_
  refine J_iconst (n := 696) dL_law_695 kI_3 rfl ?_
  refine J_iadd (n := 697) dL_law_696 rfl ?_
  try rw [nI_add]
  refine J_sld (n := 698) dL_law_697 (vp_in_nI (by omega) (by omega)) rfl ?_
  rw [nI_clamp (by omega)]
  refine J_callVx (n := 701) wS_X6_place (c_G_place (Q := fun r h => r = some (.int (sp_place S (gx_xs G (i + 1)) (gx_xs G (i + 2)) (gx_xs G (i + 3)))) ∧ ∃ τ, cR τ (S) ∧ τ 7 0 = σ 7 0 ∧ h = hp G τ) (d + 7) (gx_xs G (i + 1)) (gx_xs G (i + 2)) (gx_xs G (i + 3)) hS hc (fun τ h1 h2 => ⟨rfl, τ, h1, h2, rfl⟩)) dL_law_698 wm_L_89 ⟨wM_X6_place, wV_X6_place⟩ rfl (T_recv (by decide) (by decide)) rfl rfl (Nat.le_of_ble_eq_true rfl) rfl (fun r h1 hq1 => ?_)
  obtain ⟨rfl, τ, hc1, h7, rfl⟩ := hq1
  refine J_aload_n (i := 2) (n := 702) dL_law_701 rfl rfl rfl ?_
  refine J_aload_n (i := 0) (n := 703) dL_law_702 rfl rfl rfl ?_
  refine J_iload_n (i := 3) (n := 704) dL_law_703 rfl rfl rfl ?_
  refine J_iconst (n := 705) dL_law_704 kI_1 rfl ?_
  refine J_iadd (n := 706) dL_law_705 rfl ?_
  try rw [nI_add]
  refine J_sld (n := 707) dL_law_706 (vp_in_nI (by omega) (by omega)) rfl ?_
  rw [nI_clamp (by omega)]
  refine J_aload_n (i := 0) (n := 708) dL_law_707 rfl rfl rfl ?_
  refine J_iload_n (i := 3) (n := 709) dL_law_708 rfl rfl rfl ?_
  refine J_iconst (n := 710) dL_law_709 kI_2 rfl ?_
  refine J_iadd (n := 711) dL_law_710 rfl ?_
  try rw [nI_add]
  refine J_sld (n := 712) dL_law_711 (vp_in_nI (by omega) (by omega)) rfl ?_
  rw [nI_clamp (by omega)]
  refine J_aload_n (i := 0) (n := 713) dL_law_712 rfl rfl rfl ?_
  refine J_iload_n (i := 3) (n := 714) dL_law_713 rfl rfl rfl ?_
  refine J_iconst (n := 715) dL_law_714 kI_3 rfl ?_
  refine J_iadd (n := 716) dL_law_715 rfl ?_
  try rw [nI_add]
  refine J_sld (n := 717) dL_law_716 (vp_in_nI (by omega) (by omega)) rfl ?_
  rw [nI_clamp (by omega)]
  refine J_callVx (n := 720) wS_X7_place (K_eta 7 0 (c_N_place (Q := fun r h => r = some (.int (sp_place S (gx_xs G (i + 1)) (gx_xs G (i + 2)) (gx_xs G (i + 3)))) ∧ ∃ v1, mR v1 (S) ∧ h = hp G (gs_set τ 7 0 v1)) (d + 7) (gx_xs G (i + 1)) (gx_xs G (i + 2)) (gx_xs G (i + 3)) hS (show mR (τ 7 0) S by rw [h7]; exact hm) (fun v1 h1 => ⟨rfl, v1, h1, rfl⟩))) dL_law_717 wm_L_92 ⟨wM_X7_place, wV_X7_place⟩ rfl (T_recv (by decide) (by decide)) rfl rfl (Nat.le_of_ble_eq_true rfl) rfl (fun r h1 hq1 => ?_)
  obtain ⟨rfl, v1, hm1, rfl⟩ := hq1
  refine J_icmp_eq (tgt := 1450) (n := 723) dL_law_720 (by decide) rfl (fun c_720 => ?_) (fun c_720 => ?_)
  · exact k1450 _ (S) hS hc1.model (by rw [gs_same]; exact hm1)
  · exact absurd rfl c_720
set_option maxHeartbeats 4000000 in
set_option maxRecDepth 100000 in
theorem jl_extra {G : gx_G} {σ : gs_S} {Q : Option Value → gx_Hp → Prop} {S : pS} (d : Nat) {i : Nat} (hi : i + 5 ≤ G.2.2.2.2 7) (hL : G.2.2.2.2 7 ≤ 320) (hS : SOk S) (hc : cR σ S) (hm : mR (σ 7 0) S) (k1450 : ∀ τ S1, SOk S1 → cR τ S1 → mR (τ 7 0) S1 → gx_J G mL_law (d + 20) 0 0 Q 1450 [(0, .ref (G.2.2.2.1 7)), (1, .ref (gs_a G 6 0 0)), (2, .ref (gs_a G 7 0 0)), (3, .int (nI i))] [] (hp G τ)) : gx_J G mL_law (d + 20) 0 0 Q 725 [(0, .ref (G.2.2.2.1 7)), (1, .ref (gs_a G 6 0 0)), (2, .ref (gs_a G 7 0 0)), (3, .int (nI i))] [] (hp G σ) := by
  refine J_aload_n (i := 1) (n := 726) dL_law_725 rfl rfl rfl ?_
  refine J_aload_n (i := 0) (n := 727) dL_law_726 rfl rfl rfl ?_
  refine J_iload_n (i := 3) (n := 728) dL_law_727 rfl rfl rfl ?_
  refine J_iconst (n := 729) dL_law_728 kI_1 rfl ?_
  refine J_iadd (n := 730) dL_law_729 rfl ?_
  try rw [nI_add]
  refine J_sld (n := 731) dL_law_730 (vp_in_nI (by omega) (by omega)) rfl ?_
  rw [nI_clamp (by omega)]
  refine J_aload_n (i := 0) (n := 732) dL_law_731 rfl rfl rfl ?_
  refine J_iload_n (i := 3) (n := 733) dL_law_732 rfl rfl rfl ?_
  refine J_iconst (n := 734) dL_law_733 kI_2 rfl ?_
  refine J_iadd (n := 735) dL_law_734 rfl ?_
  try rw [nI_add]
  refine J_sld (n := 736) dL_law_735 (vp_in_nI (by omega) (by omega)) rfl ?_
  rw [nI_clamp (by omega)]
  refine J_callVx (n := 739) wS_X6_extra (c_G_extra (Q := fun r h => r = some (.int (sp_extra S (gx_xs G (i + 1)) (gx_xs G (i + 2)))) ∧ ∃ τ, cR τ (S) ∧ τ 7 0 = σ 7 0 ∧ h = hp G τ) (d + 7) (gx_xs G (i + 1)) (gx_xs G (i + 2)) hS hc (fun τ h1 h2 => ⟨rfl, τ, h1, h2, rfl⟩)) dL_law_736 wm_L_93 ⟨wM_X6_extra, wV_X6_extra⟩ rfl (T_recv (by decide) (by decide)) rfl rfl (Nat.le_of_ble_eq_true rfl) rfl (fun r h1 hq1 => ?_)
  obtain ⟨rfl, τ, hc1, h7, rfl⟩ := hq1
  refine J_aload_n (i := 2) (n := 740) dL_law_739 rfl rfl rfl ?_
  refine J_aload_n (i := 0) (n := 741) dL_law_740 rfl rfl rfl ?_
  refine J_iload_n (i := 3) (n := 742) dL_law_741 rfl rfl rfl ?_
  refine J_iconst (n := 743) dL_law_742 kI_1 rfl ?_
  refine J_iadd (n := 744) dL_law_743 rfl ?_
  try rw [nI_add]
  refine J_sld (n := 745) dL_law_744 (vp_in_nI (by omega) (by omega)) rfl ?_
  rw [nI_clamp (by omega)]
  refine J_aload_n (i := 0) (n := 746) dL_law_745 rfl rfl rfl ?_
  refine J_iload_n (i := 3) (n := 747) dL_law_746 rfl rfl rfl ?_
  refine J_iconst (n := 748) dL_law_747 kI_2 rfl ?_
  refine J_iadd (n := 749) dL_law_748 rfl ?_
  try rw [nI_add]
  refine J_sld (n := 750) dL_law_749 (vp_in_nI (by omega) (by omega)) rfl ?_
  rw [nI_clamp (by omega)]
  refine J_callVx (n := 753) wS_X7_extra (K_eta 7 0 (c_N_extra (Q := fun r h => r = some (.int (sp_extra S (gx_xs G (i + 1)) (gx_xs G (i + 2)))) ∧ ∃ v1, mR v1 (S) ∧ h = hp G (gs_set τ 7 0 v1)) (d + 7) (gx_xs G (i + 1)) (gx_xs G (i + 2)) hS (show mR (τ 7 0) S by rw [h7]; exact hm) (fun v1 h1 => ⟨rfl, v1, h1, rfl⟩))) dL_law_750 wm_L_96 ⟨wM_X7_extra, wV_X7_extra⟩ rfl (T_recv (by decide) (by decide)) rfl rfl (Nat.le_of_ble_eq_true rfl) rfl (fun r h1 hq1 => ?_)
  obtain ⟨rfl, v1, hm1, rfl⟩ := hq1
  refine J_icmp_eq (tgt := 1450) (n := 756) dL_law_753 (by decide) rfl (fun c_753 => ?_) (fun c_753 => ?_)
  · exact k1450 _ (S) hS hc1.model (by rw [gs_same]; exact hm1)
  · exact absurd rfl c_753
set_option maxHeartbeats 4000000 in
set_option maxRecDepth 100000 in
theorem jl_swap {G : gx_G} {σ : gs_S} {Q : Option Value → gx_Hp → Prop} {S : pS} (d : Nat) {i : Nat} (hi : i + 5 ≤ G.2.2.2.2 7) (hL : G.2.2.2.2 7 ≤ 320) (hS : SOk S) (hc : cR σ S) (hm : mR (σ 7 0) S) (k1450 : ∀ τ S1, SOk S1 → cR τ S1 → mR (τ 7 0) S1 → gx_J G mL_law (d + 20) 0 0 Q 1450 [(0, .ref (G.2.2.2.1 7)), (1, .ref (gs_a G 6 0 0)), (2, .ref (gs_a G 7 0 0)), (3, .int (nI i))] [] (hp G τ)) : gx_J G mL_law (d + 20) 0 0 Q 758 [(0, .ref (G.2.2.2.1 7)), (1, .ref (gs_a G 6 0 0)), (2, .ref (gs_a G 7 0 0)), (3, .int (nI i))] [] (hp G σ) := by
  refine J_aload_n (i := 1) (n := 759) dL_law_758 rfl rfl rfl ?_
  refine J_aload_n (i := 0) (n := 760) dL_law_759 rfl rfl rfl ?_
  refine J_iload_n (i := 3) (n := 761) dL_law_760 rfl rfl rfl ?_
  refine J_iconst (n := 762) dL_law_761 kI_1 rfl ?_
  refine J_iadd (n := 763) dL_law_762 rfl ?_
  try rw [nI_add]
  refine J_sld (n := 764) dL_law_763 (vp_in_nI (by omega) (by omega)) rfl ?_
  rw [nI_clamp (by omega)]
  refine J_aload_n (i := 0) (n := 765) dL_law_764 rfl rfl rfl ?_
  refine J_iload_n (i := 3) (n := 766) dL_law_765 rfl rfl rfl ?_
  refine J_iconst (n := 767) dL_law_766 kI_2 rfl ?_
  refine J_iadd (n := 768) dL_law_767 rfl ?_
  try rw [nI_add]
  refine J_sld (n := 769) dL_law_768 (vp_in_nI (by omega) (by omega)) rfl ?_
  rw [nI_clamp (by omega)]
  refine J_callVx (n := 772) wS_X6_swap (c_G_swap (Q := fun r h => r = some (.int (sp_swap S (gx_xs G (i + 1)) (gx_xs G (i + 2)))) ∧ ∃ τ, cR τ (S) ∧ τ 7 0 = σ 7 0 ∧ h = hp G τ) (d + 7) (gx_xs G (i + 1)) (gx_xs G (i + 2)) hS hc (fun τ h1 h2 => ⟨rfl, τ, h1, h2, rfl⟩)) dL_law_769 wm_L_97 ⟨wM_X6_swap, wV_X6_swap⟩ rfl (T_recv (by decide) (by decide)) rfl rfl (Nat.le_of_ble_eq_true rfl) rfl (fun r h1 hq1 => ?_)
  obtain ⟨rfl, τ, hc1, h7, rfl⟩ := hq1
  refine J_aload_n (i := 2) (n := 773) dL_law_772 rfl rfl rfl ?_
  refine J_aload_n (i := 0) (n := 774) dL_law_773 rfl rfl rfl ?_
  refine J_iload_n (i := 3) (n := 775) dL_law_774 rfl rfl rfl ?_
  refine J_iconst (n := 776) dL_law_775 kI_1 rfl ?_
  refine J_iadd (n := 777) dL_law_776 rfl ?_
  try rw [nI_add]
  refine J_sld (n := 778) dL_law_777 (vp_in_nI (by omega) (by omega)) rfl ?_
  rw [nI_clamp (by omega)]
  refine J_aload_n (i := 0) (n := 779) dL_law_778 rfl rfl rfl ?_
  refine J_iload_n (i := 3) (n := 780) dL_law_779 rfl rfl rfl ?_
  refine J_iconst (n := 781) dL_law_780 kI_2 rfl ?_
  refine J_iadd (n := 782) dL_law_781 rfl ?_
  try rw [nI_add]
  refine J_sld (n := 783) dL_law_782 (vp_in_nI (by omega) (by omega)) rfl ?_
  rw [nI_clamp (by omega)]
  refine J_callVx (n := 786) wS_X7_swap (K_eta 7 0 (c_N_swap (Q := fun r h => r = some (.int (sp_swap S (gx_xs G (i + 1)) (gx_xs G (i + 2)))) ∧ ∃ v1, mR v1 (S) ∧ h = hp G (gs_set τ 7 0 v1)) (d + 7) (gx_xs G (i + 1)) (gx_xs G (i + 2)) hS (show mR (τ 7 0) S by rw [h7]; exact hm) (fun v1 h1 => ⟨rfl, v1, h1, rfl⟩))) dL_law_783 wm_L_100 ⟨wM_X7_swap, wV_X7_swap⟩ rfl (T_recv (by decide) (by decide)) rfl rfl (Nat.le_of_ble_eq_true rfl) rfl (fun r h1 hq1 => ?_)
  obtain ⟨rfl, v1, hm1, rfl⟩ := hq1
  refine J_icmp_eq (tgt := 1450) (n := 789) dL_law_786 (by decide) rfl (fun c_786 => ?_) (fun c_786 => ?_)
  · exact k1450 _ (S) hS hc1.model (by rw [gs_same]; exact hm1)
  · exact absurd rfl c_786
set_option maxHeartbeats 4000000 in
set_option maxRecDepth 100000 in
theorem jl_shun {G : gx_G} {σ : gs_S} {Q : Option Value → gx_Hp → Prop} {S : pS} (d : Nat) {i : Nat} (hi : i + 5 ≤ G.2.2.2.2 7) (hL : G.2.2.2.2 7 ≤ 320) (hS : SOk S) (hc : cR σ S) (hm : mR (σ 7 0) S) (k1450 : ∀ τ S1, SOk S1 → cR τ S1 → mR (τ 7 0) S1 → gx_J G mL_law (d + 20) 0 0 Q 1450 [(0, .ref (G.2.2.2.1 7)), (1, .ref (gs_a G 6 0 0)), (2, .ref (gs_a G 7 0 0)), (3, .int (nI i))] [] (hp G τ)) : gx_J G mL_law (d + 20) 0 0 Q 791 [(0, .ref (G.2.2.2.1 7)), (1, .ref (gs_a G 6 0 0)), (2, .ref (gs_a G 7 0 0)), (3, .int (nI i))] [] (hp G σ) := by
  refine J_aload_n (i := 1) (n := 792) dL_law_791 rfl rfl rfl ?_
  refine J_aload_n (i := 0) (n := 793) dL_law_792 rfl rfl rfl ?_
  refine J_iload_n (i := 3) (n := 794) dL_law_793 rfl rfl rfl ?_
  refine J_iconst (n := 795) dL_law_794 kI_1 rfl ?_
  refine J_iadd (n := 796) dL_law_795 rfl ?_
  try rw [nI_add]
  refine J_sld (n := 797) dL_law_796 (vp_in_nI (by omega) (by omega)) rfl ?_
  rw [nI_clamp (by omega)]
  refine J_aload_n (i := 0) (n := 798) dL_law_797 rfl rfl rfl ?_
  refine J_iload_n (i := 3) (n := 799) dL_law_798 rfl rfl rfl ?_
  refine J_iconst (n := 800) dL_law_799 kI_2 rfl ?_
  refine J_iadd (n := 801) dL_law_800 rfl ?_
  try rw [nI_add]
  refine J_sld (n := 802) dL_law_801 (vp_in_nI (by omega) (by omega)) rfl ?_
  rw [nI_clamp (by omega)]
  refine J_callVx (n := 805) wS_X6_shun (c_G_shun (Q := fun r h => r = some (.int (sp_shun S (gx_xs G (i + 1)) (gx_xs G (i + 2)))) ∧ ∃ τ, cR τ (S) ∧ τ 7 0 = σ 7 0 ∧ h = hp G τ) (d + 7) (gx_xs G (i + 1)) (gx_xs G (i + 2)) hS hc (fun τ h1 h2 => ⟨rfl, τ, h1, h2, rfl⟩)) dL_law_802 wm_L_101 ⟨wM_X6_shun, wV_X6_shun⟩ rfl (T_recv (by decide) (by decide)) rfl rfl (Nat.le_of_ble_eq_true rfl) rfl (fun r h1 hq1 => ?_)
  obtain ⟨rfl, τ, hc1, h7, rfl⟩ := hq1
  refine J_aload_n (i := 2) (n := 806) dL_law_805 rfl rfl rfl ?_
  refine J_aload_n (i := 0) (n := 807) dL_law_806 rfl rfl rfl ?_
  refine J_iload_n (i := 3) (n := 808) dL_law_807 rfl rfl rfl ?_
  refine J_iconst (n := 809) dL_law_808 kI_1 rfl ?_
  refine J_iadd (n := 810) dL_law_809 rfl ?_
  try rw [nI_add]
  refine J_sld (n := 811) dL_law_810 (vp_in_nI (by omega) (by omega)) rfl ?_
  rw [nI_clamp (by omega)]
  refine J_aload_n (i := 0) (n := 812) dL_law_811 rfl rfl rfl ?_
  refine J_iload_n (i := 3) (n := 813) dL_law_812 rfl rfl rfl ?_
  refine J_iconst (n := 814) dL_law_813 kI_2 rfl ?_
  refine J_iadd (n := 815) dL_law_814 rfl ?_
  try rw [nI_add]
  refine J_sld (n := 816) dL_law_815 (vp_in_nI (by omega) (by omega)) rfl ?_
  rw [nI_clamp (by omega)]
  refine J_callVx (n := 819) wS_X7_shun (K_eta 7 0 (c_N_shun (Q := fun r h => r = some (.int (sp_shun S (gx_xs G (i + 1)) (gx_xs G (i + 2)))) ∧ ∃ v1, mR v1 (S) ∧ h = hp G (gs_set τ 7 0 v1)) (d + 7) (gx_xs G (i + 1)) (gx_xs G (i + 2)) hS (show mR (τ 7 0) S by rw [h7]; exact hm) (fun v1 h1 => ⟨rfl, v1, h1, rfl⟩))) dL_law_816 wm_L_104 ⟨wM_X7_shun, wV_X7_shun⟩ rfl (T_recv (by decide) (by decide)) rfl rfl (Nat.le_of_ble_eq_true rfl) rfl (fun r h1 hq1 => ?_)
  obtain ⟨rfl, v1, hm1, rfl⟩ := hq1
  refine J_icmp_eq (tgt := 1450) (n := 822) dL_law_819 (by decide) rfl (fun c_819 => ?_) (fun c_819 => ?_)
  · exact k1450 _ (S) hS hc1.model (by rw [gs_same]; exact hm1)
  · exact absurd rfl c_819
set_option maxHeartbeats 4000000 in
set_option maxRecDepth 100000 in
theorem jl_need {G : gx_G} {σ : gs_S} {Q : Option Value → gx_Hp → Prop} {S : pS} (d : Nat) {i : Nat} (hi : i + 5 ≤ G.2.2.2.2 7) (hL : G.2.2.2.2 7 ≤ 320) (hS : SOk S) (hc : cR σ S) (hm : mR (σ 7 0) S) (k1450 : ∀ τ S1, SOk S1 → cR τ S1 → mR (τ 7 0) S1 → gx_J G mL_law (d + 20) 0 0 Q 1450 [(0, .ref (G.2.2.2.1 7)), (1, .ref (gs_a G 6 0 0)), (2, .ref (gs_a G 7 0 0)), (3, .int (nI i))] [] (hp G τ)) : gx_J G mL_law (d + 20) 0 0 Q 824 [(0, .ref (G.2.2.2.1 7)), (1, .ref (gs_a G 6 0 0)), (2, .ref (gs_a G 7 0 0)), (3, .int (nI i))] [] (hp G σ) := by
  refine J_aload_n (i := 1) (n := 825) dL_law_824 rfl rfl rfl ?_
  refine J_aload_n (i := 0) (n := 826) dL_law_825 rfl rfl rfl ?_
  refine J_iload_n (i := 3) (n := 827) dL_law_826 rfl rfl rfl ?_
  refine J_iconst (n := 828) dL_law_827 kI_1 rfl ?_
  refine J_iadd (n := 829) dL_law_828 rfl ?_
  try rw [nI_add]
  refine J_sld (n := 830) dL_law_829 (vp_in_nI (by omega) (by omega)) rfl ?_
  rw [nI_clamp (by omega)]
  refine J_aload_n (i := 0) (n := 831) dL_law_830 rfl rfl rfl ?_
  refine J_iload_n (i := 3) (n := 832) dL_law_831 rfl rfl rfl ?_
  refine J_iconst (n := 833) dL_law_832 kI_2 rfl ?_
  refine J_iadd (n := 834) dL_law_833 rfl ?_
  try rw [nI_add]
  refine J_sld (n := 835) dL_law_834 (vp_in_nI (by omega) (by omega)) rfl ?_
  rw [nI_clamp (by omega)]
  refine J_callVx (n := 838) wS_X6_need (c_G_need (Q := fun r h => r = some (.int (sp_need S (gx_xs G (i + 1)) (gx_xs G (i + 2)))) ∧ ∃ τ, cR τ (S) ∧ τ 7 0 = σ 7 0 ∧ h = hp G τ) (d + 7) (gx_xs G (i + 1)) (gx_xs G (i + 2)) hS hc (fun τ h1 h2 => ⟨rfl, τ, h1, h2, rfl⟩)) dL_law_835 wm_L_105 ⟨wM_X6_need, wV_X6_need⟩ rfl (T_recv (by decide) (by decide)) rfl rfl (Nat.le_of_ble_eq_true rfl) rfl (fun r h1 hq1 => ?_)
  obtain ⟨rfl, τ, hc1, h7, rfl⟩ := hq1
  refine J_aload_n (i := 2) (n := 839) dL_law_838 rfl rfl rfl ?_
  refine J_aload_n (i := 0) (n := 840) dL_law_839 rfl rfl rfl ?_
  refine J_iload_n (i := 3) (n := 841) dL_law_840 rfl rfl rfl ?_
  refine J_iconst (n := 842) dL_law_841 kI_1 rfl ?_
  refine J_iadd (n := 843) dL_law_842 rfl ?_
  try rw [nI_add]
  refine J_sld (n := 844) dL_law_843 (vp_in_nI (by omega) (by omega)) rfl ?_
  rw [nI_clamp (by omega)]
  refine J_aload_n (i := 0) (n := 845) dL_law_844 rfl rfl rfl ?_
  refine J_iload_n (i := 3) (n := 846) dL_law_845 rfl rfl rfl ?_
  refine J_iconst (n := 847) dL_law_846 kI_2 rfl ?_
  refine J_iadd (n := 848) dL_law_847 rfl ?_
  try rw [nI_add]
  refine J_sld (n := 849) dL_law_848 (vp_in_nI (by omega) (by omega)) rfl ?_
  rw [nI_clamp (by omega)]
  refine J_callVx (n := 852) wS_X7_need (K_eta 7 0 (c_N_need (Q := fun r h => r = some (.int (sp_need S (gx_xs G (i + 1)) (gx_xs G (i + 2)))) ∧ ∃ v1, mR v1 (S) ∧ h = hp G (gs_set τ 7 0 v1)) (d + 7) (gx_xs G (i + 1)) (gx_xs G (i + 2)) hS (show mR (τ 7 0) S by rw [h7]; exact hm) (fun v1 h1 => ⟨rfl, v1, h1, rfl⟩))) dL_law_849 wm_L_108 ⟨wM_X7_need, wV_X7_need⟩ rfl (T_recv (by decide) (by decide)) rfl rfl (Nat.le_of_ble_eq_true rfl) rfl (fun r h1 hq1 => ?_)
  obtain ⟨rfl, v1, hm1, rfl⟩ := hq1
  refine J_icmp_eq (tgt := 1450) (n := 855) dL_law_852 (by decide) rfl (fun c_852 => ?_) (fun c_852 => ?_)
  · exact k1450 _ (S) hS hc1.model (by rw [gs_same]; exact hm1)
  · exact absurd rfl c_852
set_option maxHeartbeats 4000000 in
set_option maxRecDepth 100000 in
theorem jl_kind {G : gx_G} {σ : gs_S} {Q : Option Value → gx_Hp → Prop} {S : pS} (d : Nat) {i : Nat} (hi : i + 5 ≤ G.2.2.2.2 7) (hL : G.2.2.2.2 7 ≤ 320) (hS : SOk S) (hc : cR σ S) (hm : mR (σ 7 0) S) (k1450 : ∀ τ S1, SOk S1 → cR τ S1 → mR (τ 7 0) S1 → gx_J G mL_law (d + 20) 0 0 Q 1450 [(0, .ref (G.2.2.2.1 7)), (1, .ref (gs_a G 6 0 0)), (2, .ref (gs_a G 7 0 0)), (3, .int (nI i))] [] (hp G τ)) : gx_J G mL_law (d + 20) 0 0 Q 857 [(0, .ref (G.2.2.2.1 7)), (1, .ref (gs_a G 6 0 0)), (2, .ref (gs_a G 7 0 0)), (3, .int (nI i))] [] (hp G σ) := by
  refine J_aload_n (i := 1) (n := 858) dL_law_857 rfl rfl rfl ?_
  refine J_aload_n (i := 0) (n := 859) dL_law_858 rfl rfl rfl ?_
  refine J_iload_n (i := 3) (n := 860) dL_law_859 rfl rfl rfl ?_
  refine J_iconst (n := 861) dL_law_860 kI_1 rfl ?_
  refine J_iadd (n := 862) dL_law_861 rfl ?_
  try rw [nI_add]
  refine J_sld (n := 863) dL_law_862 (vp_in_nI (by omega) (by omega)) rfl ?_
  rw [nI_clamp (by omega)]
  refine J_aload_n (i := 0) (n := 864) dL_law_863 rfl rfl rfl ?_
  refine J_iload_n (i := 3) (n := 865) dL_law_864 rfl rfl rfl ?_
  refine J_iconst (n := 866) dL_law_865 kI_2 rfl ?_
  refine J_iadd (n := 867) dL_law_866 rfl ?_
  try rw [nI_add]
  refine J_sld (n := 868) dL_law_867 (vp_in_nI (by omega) (by omega)) rfl ?_
  rw [nI_clamp (by omega)]
  refine J_aload_n (i := 0) (n := 869) dL_law_868 rfl rfl rfl ?_
  refine J_iload_n (i := 3) (n := 870) dL_law_869 rfl rfl rfl ?_
  refine J_iconst (n := 871) dL_law_870 kI_3 rfl ?_
  refine J_iadd (n := 872) dL_law_871 rfl ?_
  try rw [nI_add]
  refine J_sld (n := 873) dL_law_872 (vp_in_nI (by omega) (by omega)) rfl ?_
  rw [nI_clamp (by omega)]
  refine J_callVx (n := 876) wS_X6_kind (c_G_kind (Q := fun r h => r = some (.int (sp_kind S (gx_xs G (i + 1)) (gx_xs G (i + 2)) (gx_xs G (i + 3)))) ∧ ∃ τ, cR τ (S) ∧ τ 7 0 = σ 7 0 ∧ h = hp G τ) (d + 7) (gx_xs G (i + 1)) (gx_xs G (i + 2)) (gx_xs G (i + 3)) hS hc (fun τ h1 h2 => ⟨rfl, τ, h1, h2, rfl⟩)) dL_law_873 wm_L_109 ⟨wM_X6_kind, wV_X6_kind⟩ rfl (T_recv (by decide) (by decide)) rfl rfl (Nat.le_of_ble_eq_true rfl) rfl (fun r h1 hq1 => ?_)
  obtain ⟨rfl, τ, hc1, h7, rfl⟩ := hq1
  refine J_aload_n (i := 2) (n := 877) dL_law_876 rfl rfl rfl ?_
  refine J_aload_n (i := 0) (n := 878) dL_law_877 rfl rfl rfl ?_
  refine J_iload_n (i := 3) (n := 879) dL_law_878 rfl rfl rfl ?_
  refine J_iconst (n := 880) dL_law_879 kI_1 rfl ?_
  refine J_iadd (n := 881) dL_law_880 rfl ?_
  try rw [nI_add]
  refine J_sld (n := 882) dL_law_881 (vp_in_nI (by omega) (by omega)) rfl ?_
  rw [nI_clamp (by omega)]
  refine J_aload_n (i := 0) (n := 883) dL_law_882 rfl rfl rfl ?_
  refine J_iload_n (i := 3) (n := 884) dL_law_883 rfl rfl rfl ?_
  refine J_iconst (n := 885) dL_law_884 kI_2 rfl ?_
  refine J_iadd (n := 886) dL_law_885 rfl ?_
  try rw [nI_add]
  refine J_sld (n := 887) dL_law_886 (vp_in_nI (by omega) (by omega)) rfl ?_
  rw [nI_clamp (by omega)]
  refine J_aload_n (i := 0) (n := 888) dL_law_887 rfl rfl rfl ?_
  refine J_iload_n (i := 3) (n := 889) dL_law_888 rfl rfl rfl ?_
  refine J_iconst (n := 890) dL_law_889 kI_3 rfl ?_
  refine J_iadd (n := 891) dL_law_890 rfl ?_
  try rw [nI_add]
  refine J_sld (n := 892) dL_law_891 (vp_in_nI (by omega) (by omega)) rfl ?_
  rw [nI_clamp (by omega)]
  refine J_callVx (n := 895) wS_X7_kind (K_eta 7 0 (c_N_kind (Q := fun r h => r = some (.int (sp_kind S (gx_xs G (i + 1)) (gx_xs G (i + 2)) (gx_xs G (i + 3)))) ∧ ∃ v1, mR v1 (S) ∧ h = hp G (gs_set τ 7 0 v1)) (d + 7) (gx_xs G (i + 1)) (gx_xs G (i + 2)) (gx_xs G (i + 3)) hS (show mR (τ 7 0) S by rw [h7]; exact hm) (fun v1 h1 => ⟨rfl, v1, h1, rfl⟩))) dL_law_892 wm_L_112 ⟨wM_X7_kind, wV_X7_kind⟩ rfl (T_recv (by decide) (by decide)) rfl rfl (Nat.le_of_ble_eq_true rfl) rfl (fun r h1 hq1 => ?_)
  obtain ⟨rfl, v1, hm1, rfl⟩ := hq1
  refine J_icmp_eq (tgt := 1450) (n := 898) dL_law_895 (by decide) rfl (fun c_895 => ?_) (fun c_895 => ?_)
  · exact k1450 _ (S) hS hc1.model (by rw [gs_same]; exact hm1)
  · exact absurd rfl c_895
set_option maxHeartbeats 4000000 in
set_option maxRecDepth 100000 in
theorem jl_drop {G : gx_G} {σ : gs_S} {Q : Option Value → gx_Hp → Prop} {S : pS} (d : Nat) {i : Nat} (hi : i + 5 ≤ G.2.2.2.2 7) (hL : G.2.2.2.2 7 ≤ 320) (hS : SOk S) (hc : cR σ S) (hm : mR (σ 7 0) S) (k1450 : ∀ τ S1, SOk S1 → cR τ S1 → mR (τ 7 0) S1 → gx_J G mL_law (d + 20) 0 0 Q 1450 [(0, .ref (G.2.2.2.1 7)), (1, .ref (gs_a G 6 0 0)), (2, .ref (gs_a G 7 0 0)), (3, .int (nI i))] [] (hp G τ)) : gx_J G mL_law (d + 20) 0 0 Q 900 [(0, .ref (G.2.2.2.1 7)), (1, .ref (gs_a G 6 0 0)), (2, .ref (gs_a G 7 0 0)), (3, .int (nI i))] [] (hp G σ) := by
  refine J_aload_n (i := 1) (n := 901) dL_law_900 rfl rfl rfl ?_
  refine J_aload_n (i := 0) (n := 902) dL_law_901 rfl rfl rfl ?_
  refine J_iload_n (i := 3) (n := 903) dL_law_902 rfl rfl rfl ?_
  refine J_iconst (n := 904) dL_law_903 kI_1 rfl ?_
  refine J_iadd (n := 905) dL_law_904 rfl ?_
  try rw [nI_add]
  refine J_sld (n := 906) dL_law_905 (vp_in_nI (by omega) (by omega)) rfl ?_
  rw [nI_clamp (by omega)]
  refine J_aload_n (i := 0) (n := 907) dL_law_906 rfl rfl rfl ?_
  refine J_iload_n (i := 3) (n := 908) dL_law_907 rfl rfl rfl ?_
  refine J_iconst (n := 909) dL_law_908 kI_2 rfl ?_
  refine J_iadd (n := 910) dL_law_909 rfl ?_
  try rw [nI_add]
  refine J_sld (n := 911) dL_law_910 (vp_in_nI (by omega) (by omega)) rfl ?_
  rw [nI_clamp (by omega)]
  refine J_aload_n (i := 0) (n := 912) dL_law_911 rfl rfl rfl ?_
  refine J_iload_n (i := 3) (n := 913) dL_law_912 rfl rfl rfl ?_
  refine J_iconst (n := 914) dL_law_913 kI_3 rfl ?_
  refine J_iadd (n := 915) dL_law_914 rfl ?_
  try rw [nI_add]
  refine J_sld (n := 916) dL_law_915 (vp_in_nI (by omega) (by omega)) rfl ?_
  rw [nI_clamp (by omega)]
  refine J_callVx (n := 919) wS_X6_drop (c_G_drop (Q := fun r h => r = some (.int (sp_drop S (gx_xs G (i + 1)) (gx_xs G (i + 2)) (gx_xs G (i + 3)))) ∧ ∃ τ, cR τ (S) ∧ τ 7 0 = σ 7 0 ∧ h = hp G τ) (d + 7) (gx_xs G (i + 1)) (gx_xs G (i + 2)) (gx_xs G (i + 3)) hS hc (fun τ h1 h2 => ⟨rfl, τ, h1, h2, rfl⟩)) dL_law_916 wm_L_113 ⟨wM_X6_drop, wV_X6_drop⟩ rfl (T_recv (by decide) (by decide)) rfl rfl (Nat.le_of_ble_eq_true rfl) rfl (fun r h1 hq1 => ?_)
  obtain ⟨rfl, τ, hc1, h7, rfl⟩ := hq1
  refine J_aload_n (i := 2) (n := 920) dL_law_919 rfl rfl rfl ?_
  refine J_aload_n (i := 0) (n := 921) dL_law_920 rfl rfl rfl ?_
  refine J_iload_n (i := 3) (n := 922) dL_law_921 rfl rfl rfl ?_
  refine J_iconst (n := 923) dL_law_922 kI_1 rfl ?_
  refine J_iadd (n := 924) dL_law_923 rfl ?_
  try rw [nI_add]
  refine J_sld (n := 925) dL_law_924 (vp_in_nI (by omega) (by omega)) rfl ?_
  rw [nI_clamp (by omega)]
  refine J_aload_n (i := 0) (n := 926) dL_law_925 rfl rfl rfl ?_
  refine J_iload_n (i := 3) (n := 927) dL_law_926 rfl rfl rfl ?_
  refine J_iconst (n := 928) dL_law_927 kI_2 rfl ?_
  refine J_iadd (n := 929) dL_law_928 rfl ?_
  try rw [nI_add]
  refine J_sld (n := 930) dL_law_929 (vp_in_nI (by omega) (by omega)) rfl ?_
  rw [nI_clamp (by omega)]
  refine J_aload_n (i := 0) (n := 931) dL_law_930 rfl rfl rfl ?_
  refine J_iload_n (i := 3) (n := 932) dL_law_931 rfl rfl rfl ?_
  refine J_iconst (n := 933) dL_law_932 kI_3 rfl ?_
  refine J_iadd (n := 934) dL_law_933 rfl ?_
  try rw [nI_add]
  refine J_sld (n := 935) dL_law_934 (vp_in_nI (by omega) (by omega)) rfl ?_
  rw [nI_clamp (by omega)]
  refine J_callVx (n := 938) wS_X7_drop (K_eta 7 0 (c_N_drop (Q := fun r h => r = some (.int (sp_drop S (gx_xs G (i + 1)) (gx_xs G (i + 2)) (gx_xs G (i + 3)))) ∧ ∃ v1, mR v1 (S) ∧ h = hp G (gs_set τ 7 0 v1)) (d + 7) (gx_xs G (i + 1)) (gx_xs G (i + 2)) (gx_xs G (i + 3)) hS (show mR (τ 7 0) S by rw [h7]; exact hm) (fun v1 h1 => ⟨rfl, v1, h1, rfl⟩))) dL_law_935 wm_L_116 ⟨wM_X7_drop, wV_X7_drop⟩ rfl (T_recv (by decide) (by decide)) rfl rfl (Nat.le_of_ble_eq_true rfl) rfl (fun r h1 hq1 => ?_)
  obtain ⟨rfl, v1, hm1, rfl⟩ := hq1
  refine J_icmp_eq (tgt := 1450) (n := 941) dL_law_938 (by decide) rfl (fun c_938 => ?_) (fun c_938 => ?_)
  · exact k1450 _ (S) hS hc1.model (by rw [gs_same]; exact hm1)
  · exact absurd rfl c_938
set_option maxHeartbeats 4000000 in
set_option maxRecDepth 100000 in
theorem jl_luck {G : gx_G} {σ : gs_S} {Q : Option Value → gx_Hp → Prop} {S : pS} (d : Nat) {i : Nat} (hi : i + 5 ≤ G.2.2.2.2 7) (hL : G.2.2.2.2 7 ≤ 320) (hS : SOk S) (hc : cR σ S) (hm : mR (σ 7 0) S) (k1450 : ∀ τ S1, SOk S1 → cR τ S1 → mR (τ 7 0) S1 → gx_J G mL_law (d + 20) 0 0 Q 1450 [(0, .ref (G.2.2.2.1 7)), (1, .ref (gs_a G 6 0 0)), (2, .ref (gs_a G 7 0 0)), (3, .int (nI i))] [] (hp G τ)) : gx_J G mL_law (d + 20) 0 0 Q 943 [(0, .ref (G.2.2.2.1 7)), (1, .ref (gs_a G 6 0 0)), (2, .ref (gs_a G 7 0 0)), (3, .int (nI i))] [] (hp G σ) := by
  refine J_aload_n (i := 1) (n := 944) dL_law_943 rfl rfl rfl ?_
  refine J_aload_n (i := 0) (n := 945) dL_law_944 rfl rfl rfl ?_
  refine J_iload_n (i := 3) (n := 946) dL_law_945 rfl rfl rfl ?_
  refine J_iconst (n := 947) dL_law_946 kI_1 rfl ?_
  refine J_iadd (n := 948) dL_law_947 rfl ?_
  try rw [nI_add]
  refine J_sld (n := 949) dL_law_948 (vp_in_nI (by omega) (by omega)) rfl ?_
  rw [nI_clamp (by omega)]
  refine J_aload_n (i := 0) (n := 950) dL_law_949 rfl rfl rfl ?_
  refine J_iload_n (i := 3) (n := 951) dL_law_950 rfl rfl rfl ?_
  refine J_iconst (n := 952) dL_law_951 kI_2 rfl ?_
  refine J_iadd (n := 953) dL_law_952 rfl ?_
  try rw [nI_add]
  refine J_sld (n := 954) dL_law_953 (vp_in_nI (by omega) (by omega)) rfl ?_
  rw [nI_clamp (by omega)]
  refine J_aload_n (i := 0) (n := 955) dL_law_954 rfl rfl rfl ?_
  refine J_iload_n (i := 3) (n := 956) dL_law_955 rfl rfl rfl ?_
  refine J_iconst (n := 957) dL_law_956 kI_3 rfl ?_
  refine J_iadd (n := 958) dL_law_957 rfl ?_
  try rw [nI_add]
  refine J_sld (n := 959) dL_law_958 (vp_in_nI (by omega) (by omega)) rfl ?_
  rw [nI_clamp (by omega)]
  refine J_aload_n (i := 0) (n := 960) dL_law_959 rfl rfl rfl ?_
  refine J_iload_n (i := 3) (n := 961) dL_law_960 rfl rfl rfl ?_
  refine J_iconst (n := 962) dL_law_961 kI_4 rfl ?_
  refine J_iadd (n := 963) dL_law_962 rfl ?_
  try rw [nI_add]
  refine J_sld (n := 964) dL_law_963 (vp_in_nI (by omega) (by omega)) rfl ?_
  rw [nI_clamp (by omega)]
  refine J_callVx (n := 967) wS_X6_luck (c_G_luck (Q := fun r h => r = some (.long (sp_luck S (gx_xs G (i + 1)) (gx_xs G (i + 2)) (gx_xs G (i + 3)) (gx_xs G (i + 4)))) ∧ ∃ τ, cR τ (S) ∧ τ 7 0 = σ 7 0 ∧ h = hp G τ) (d + 3) (gx_xs G (i + 1)) (gx_xs G (i + 2)) (gx_xs G (i + 3)) (gx_xs G (i + 4)) hS hc (fun τ h1 h2 => ⟨rfl, τ, h1, h2, rfl⟩)) dL_law_964 wm_L_117 ⟨wM_X6_luck, wV_X6_luck⟩ rfl (T_recv (by decide) (by decide)) rfl rfl (Nat.le_of_ble_eq_true rfl) rfl (fun r h1 hq1 => ?_)
  obtain ⟨rfl, τ, hc1, h7, rfl⟩ := hq1
  refine J_aload_n (i := 2) (n := 968) dL_law_967 rfl rfl rfl ?_
  refine J_aload_n (i := 0) (n := 969) dL_law_968 rfl rfl rfl ?_
  refine J_iload_n (i := 3) (n := 970) dL_law_969 rfl rfl rfl ?_
  refine J_iconst (n := 971) dL_law_970 kI_1 rfl ?_
  refine J_iadd (n := 972) dL_law_971 rfl ?_
  try rw [nI_add]
  refine J_sld (n := 973) dL_law_972 (vp_in_nI (by omega) (by omega)) rfl ?_
  rw [nI_clamp (by omega)]
  refine J_aload_n (i := 0) (n := 974) dL_law_973 rfl rfl rfl ?_
  refine J_iload_n (i := 3) (n := 975) dL_law_974 rfl rfl rfl ?_
  refine J_iconst (n := 976) dL_law_975 kI_2 rfl ?_
  refine J_iadd (n := 977) dL_law_976 rfl ?_
  try rw [nI_add]
  refine J_sld (n := 978) dL_law_977 (vp_in_nI (by omega) (by omega)) rfl ?_
  rw [nI_clamp (by omega)]
  refine J_aload_n (i := 0) (n := 979) dL_law_978 rfl rfl rfl ?_
  refine J_iload_n (i := 3) (n := 980) dL_law_979 rfl rfl rfl ?_
  refine J_iconst (n := 981) dL_law_980 kI_3 rfl ?_
  refine J_iadd (n := 982) dL_law_981 rfl ?_
  try rw [nI_add]
  refine J_sld (n := 983) dL_law_982 (vp_in_nI (by omega) (by omega)) rfl ?_
  rw [nI_clamp (by omega)]
  refine J_aload_n (i := 0) (n := 984) dL_law_983 rfl rfl rfl ?_
  refine J_iload_n (i := 3) (n := 985) dL_law_984 rfl rfl rfl ?_
  refine J_iconst (n := 986) dL_law_985 kI_4 rfl ?_
  refine J_iadd (n := 987) dL_law_986 rfl ?_
  try rw [nI_add]
  refine J_sld (n := 988) dL_law_987 (vp_in_nI (by omega) (by omega)) rfl ?_
  rw [nI_clamp (by omega)]
  refine J_callVx (n := 991) wS_X7_luck (K_eta 7 0 (c_N_luck (Q := fun r h => r = some (.long (sp_luck S (gx_xs G (i + 1)) (gx_xs G (i + 2)) (gx_xs G (i + 3)) (gx_xs G (i + 4)))) ∧ ∃ v1, mR v1 (S) ∧ h = hp G (gs_set τ 7 0 v1)) (d + 7) (gx_xs G (i + 1)) (gx_xs G (i + 2)) (gx_xs G (i + 3)) (gx_xs G (i + 4)) hS (show mR (τ 7 0) S by rw [h7]; exact hm) (fun v1 h1 => ⟨rfl, v1, h1, rfl⟩))) dL_law_988 wm_L_121 ⟨wM_X7_luck, wV_X7_luck⟩ rfl (T_recv (by decide) (by decide)) rfl rfl (Nat.le_of_ble_eq_true rfl) rfl (fun r h1 hq1 => ?_)
  obtain ⟨rfl, v1, hm1, rfl⟩ := hq1
  refine J_lcmp (n := 992) dL_law_991 rfl ?_
  refine J_if_eq (tgt := 1450) (n := 995) dL_law_992 (by decide) rfl (fun c_992 => ?_) (fun c_992 => ?_)
  · exact k1450 _ (S) hS hc1.model (by rw [gs_same]; exact hm1)
  · exact absurd (lg_0 _) c_992
set_option maxHeartbeats 4000000 in
set_option maxRecDepth 100000 in
theorem jl_mean {G : gx_G} {σ : gs_S} {Q : Option Value → gx_Hp → Prop} {S : pS} (d : Nat) {i : Nat} (hi : i + 5 ≤ G.2.2.2.2 7) (hL : G.2.2.2.2 7 ≤ 320) (hS : SOk S) (hc : cR σ S) (hm : mR (σ 7 0) S) (k1450 : ∀ τ S1, SOk S1 → cR τ S1 → mR (τ 7 0) S1 → gx_J G mL_law (d + 20) 0 0 Q 1450 [(0, .ref (G.2.2.2.1 7)), (1, .ref (gs_a G 6 0 0)), (2, .ref (gs_a G 7 0 0)), (3, .int (nI i))] [] (hp G τ)) : gx_J G mL_law (d + 20) 0 0 Q 997 [(0, .ref (G.2.2.2.1 7)), (1, .ref (gs_a G 6 0 0)), (2, .ref (gs_a G 7 0 0)), (3, .int (nI i))] [] (hp G σ) := by
  refine J_aload_n (i := 1) (n := 998) dL_law_997 rfl rfl rfl ?_
  refine J_aload_n (i := 0) (n := 999) dL_law_998 rfl rfl rfl ?_
  refine J_iload_n (i := 3) (n := 1000) dL_law_999 rfl rfl rfl ?_
  refine J_iconst (n := 1001) dL_law_1000 kI_1 rfl ?_
  refine J_iadd (n := 1002) dL_law_1001 rfl ?_
  try rw [nI_add]
  refine J_sld (n := 1003) dL_law_1002 (vp_in_nI (by omega) (by omega)) rfl ?_
  rw [nI_clamp (by omega)]
  refine J_aload_n (i := 0) (n := 1004) dL_law_1003 rfl rfl rfl ?_
  refine J_iload_n (i := 3) (n := 1005) dL_law_1004 rfl rfl rfl ?_
  refine J_iconst (n := 1006) dL_law_1005 kI_2 rfl ?_
  refine J_iadd (n := 1007) dL_law_1006 rfl ?_
  try rw [nI_add]
  refine J_sld (n := 1008) dL_law_1007 (vp_in_nI (by omega) (by omega)) rfl ?_
  rw [nI_clamp (by omega)]
  refine J_aload_n (i := 0) (n := 1009) dL_law_1008 rfl rfl rfl ?_
  refine J_iload_n (i := 3) (n := 1010) dL_law_1009 rfl rfl rfl ?_
  refine J_iconst (n := 1011) dL_law_1010 kI_3 rfl ?_
  refine J_iadd (n := 1012) dL_law_1011 rfl ?_
  try rw [nI_add]
  refine J_sld (n := 1013) dL_law_1012 (vp_in_nI (by omega) (by omega)) rfl ?_
  rw [nI_clamp (by omega)]
  refine J_callVx (n := 1016) wS_X6_mean (c_G_mean (Q := fun r h => r = some (.long (sp_mean S (gx_xs G (i + 1)) (gx_xs G (i + 2)) (gx_xs G (i + 3)))) ∧ ∃ τ, cR τ (S) ∧ τ 7 0 = σ 7 0 ∧ h = hp G τ) (d + 3) (gx_xs G (i + 1)) (gx_xs G (i + 2)) (gx_xs G (i + 3)) hS hc (fun τ h1 h2 => ⟨rfl, τ, h1, h2, rfl⟩)) dL_law_1013 wm_L_122 ⟨wM_X6_mean, wV_X6_mean⟩ rfl (T_recv (by decide) (by decide)) rfl rfl (Nat.le_of_ble_eq_true rfl) rfl (fun r h1 hq1 => ?_)
  obtain ⟨rfl, τ, hc1, h7, rfl⟩ := hq1
  refine J_aload_n (i := 2) (n := 1017) dL_law_1016 rfl rfl rfl ?_
  refine J_aload_n (i := 0) (n := 1018) dL_law_1017 rfl rfl rfl ?_
  refine J_iload_n (i := 3) (n := 1019) dL_law_1018 rfl rfl rfl ?_
  refine J_iconst (n := 1020) dL_law_1019 kI_1 rfl ?_
  refine J_iadd (n := 1021) dL_law_1020 rfl ?_
  try rw [nI_add]
  refine J_sld (n := 1022) dL_law_1021 (vp_in_nI (by omega) (by omega)) rfl ?_
  rw [nI_clamp (by omega)]
  refine J_aload_n (i := 0) (n := 1023) dL_law_1022 rfl rfl rfl ?_
  refine J_iload_n (i := 3) (n := 1024) dL_law_1023 rfl rfl rfl ?_
  refine J_iconst (n := 1025) dL_law_1024 kI_2 rfl ?_
  refine J_iadd (n := 1026) dL_law_1025 rfl ?_
  try rw [nI_add]
  refine J_sld (n := 1027) dL_law_1026 (vp_in_nI (by omega) (by omega)) rfl ?_
  rw [nI_clamp (by omega)]
  refine J_aload_n (i := 0) (n := 1028) dL_law_1027 rfl rfl rfl ?_
  refine J_iload_n (i := 3) (n := 1029) dL_law_1028 rfl rfl rfl ?_
  refine J_iconst (n := 1030) dL_law_1029 kI_3 rfl ?_
  refine J_iadd (n := 1031) dL_law_1030 rfl ?_
  try rw [nI_add]
  refine J_sld (n := 1032) dL_law_1031 (vp_in_nI (by omega) (by omega)) rfl ?_
  rw [nI_clamp (by omega)]
  refine J_callVx (n := 1035) wS_X7_mean (K_eta 7 0 (c_N_mean (Q := fun r h => r = some (.long (sp_mean S (gx_xs G (i + 1)) (gx_xs G (i + 2)) (gx_xs G (i + 3)))) ∧ ∃ v1, mR v1 (S) ∧ h = hp G (gs_set τ 7 0 v1)) (d + 7) (gx_xs G (i + 1)) (gx_xs G (i + 2)) (gx_xs G (i + 3)) hS (show mR (τ 7 0) S by rw [h7]; exact hm) (fun v1 h1 => ⟨rfl, v1, h1, rfl⟩))) dL_law_1032 wm_L_126 ⟨wM_X7_mean, wV_X7_mean⟩ rfl (T_recv (by decide) (by decide)) rfl rfl (Nat.le_of_ble_eq_true rfl) rfl (fun r h1 hq1 => ?_)
  obtain ⟨rfl, v1, hm1, rfl⟩ := hq1
  refine J_lcmp (n := 1036) dL_law_1035 rfl ?_
  refine J_if_eq (tgt := 1450) (n := 1039) dL_law_1036 (by decide) rfl (fun c_1036 => ?_) (fun c_1036 => ?_)
  · exact k1450 _ (S) hS hc1.model (by rw [gs_same]; exact hm1)
  · exact absurd (lg_0 _) c_1036
set_option maxHeartbeats 4000000 in
set_option maxRecDepth 100000 in
theorem jl_see {G : gx_G} {σ : gs_S} {Q : Option Value → gx_Hp → Prop} {S : pS} (d : Nat) {i : Nat} (hi : i + 5 ≤ G.2.2.2.2 7) (hL : G.2.2.2.2 7 ≤ 320) (hS : SOk S) (hc : cR σ S) (hm : mR (σ 7 0) S) (k1450 : ∀ τ S1, SOk S1 → cR τ S1 → mR (τ 7 0) S1 → gx_J G mL_law (d + 20) 0 0 Q 1450 [(0, .ref (G.2.2.2.1 7)), (1, .ref (gs_a G 6 0 0)), (2, .ref (gs_a G 7 0 0)), (3, .int (nI i))] [] (hp G τ)) : gx_J G mL_law (d + 20) 0 0 Q 1041 [(0, .ref (G.2.2.2.1 7)), (1, .ref (gs_a G 6 0 0)), (2, .ref (gs_a G 7 0 0)), (3, .int (nI i))] [] (hp G σ) := by
  refine J_aload_n (i := 1) (n := 1042) dL_law_1041 rfl rfl rfl ?_
  refine J_aload_n (i := 0) (n := 1043) dL_law_1042 rfl rfl rfl ?_
  refine J_iload_n (i := 3) (n := 1044) dL_law_1043 rfl rfl rfl ?_
  refine J_iconst (n := 1045) dL_law_1044 kI_1 rfl ?_
  refine J_iadd (n := 1046) dL_law_1045 rfl ?_
  try rw [nI_add]
  refine J_sld (n := 1047) dL_law_1046 (vp_in_nI (by omega) (by omega)) rfl ?_
  rw [nI_clamp (by omega)]
  refine J_aload_n (i := 0) (n := 1048) dL_law_1047 rfl rfl rfl ?_
  refine J_iload_n (i := 3) (n := 1049) dL_law_1048 rfl rfl rfl ?_
  refine J_iconst (n := 1050) dL_law_1049 kI_2 rfl ?_
  refine J_iadd (n := 1051) dL_law_1050 rfl ?_
  try rw [nI_add]
  refine J_sld (n := 1052) dL_law_1051 (vp_in_nI (by omega) (by omega)) rfl ?_
  rw [nI_clamp (by omega)]
  refine J_aload_n (i := 0) (n := 1053) dL_law_1052 rfl rfl rfl ?_
  refine J_iload_n (i := 3) (n := 1054) dL_law_1053 rfl rfl rfl ?_
  refine J_iconst (n := 1055) dL_law_1054 kI_3 rfl ?_
  refine J_iadd (n := 1056) dL_law_1055 rfl ?_
  try rw [nI_add]
  refine J_sld (n := 1057) dL_law_1056 (vp_in_nI (by omega) (by omega)) rfl ?_
  rw [nI_clamp (by omega)]
  refine J_callVx (n := 1060) wS_X6_see (c_G_see (Q := fun r h => r = some (.int ((sp_see S (gx_xs G (i + 1)) (gx_xs G (i + 2)) (gx_xs G (i + 3))).1)) ∧ ∃ τ, cR τ ((sp_see S (gx_xs G (i + 1)) (gx_xs G (i + 2)) (gx_xs G (i + 3))).2) ∧ τ 7 0 = σ 7 0 ∧ h = hp G τ) (d + 7) (gx_xs G (i + 1)) (gx_xs G (i + 2)) (gx_xs G (i + 3)) hS hc (fun τ h1 h2 => ⟨rfl, τ, h1, h2, rfl⟩)) dL_law_1057 wm_L_127 ⟨wM_X6_see, wV_X6_see⟩ rfl (T_recv (by decide) (by decide)) rfl rfl (Nat.le_of_ble_eq_true rfl) rfl (fun r h1 hq1 => ?_)
  obtain ⟨rfl, τ, hc1, h7, rfl⟩ := hq1
  refine J_aload_n (i := 2) (n := 1061) dL_law_1060 rfl rfl rfl ?_
  refine J_aload_n (i := 0) (n := 1062) dL_law_1061 rfl rfl rfl ?_
  refine J_iload_n (i := 3) (n := 1063) dL_law_1062 rfl rfl rfl ?_
  refine J_iconst (n := 1064) dL_law_1063 kI_1 rfl ?_
  refine J_iadd (n := 1065) dL_law_1064 rfl ?_
  try rw [nI_add]
  refine J_sld (n := 1066) dL_law_1065 (vp_in_nI (by omega) (by omega)) rfl ?_
  rw [nI_clamp (by omega)]
  refine J_aload_n (i := 0) (n := 1067) dL_law_1066 rfl rfl rfl ?_
  refine J_iload_n (i := 3) (n := 1068) dL_law_1067 rfl rfl rfl ?_
  refine J_iconst (n := 1069) dL_law_1068 kI_2 rfl ?_
  refine J_iadd (n := 1070) dL_law_1069 rfl ?_
  try rw [nI_add]
  refine J_sld (n := 1071) dL_law_1070 (vp_in_nI (by omega) (by omega)) rfl ?_
  rw [nI_clamp (by omega)]
  refine J_aload_n (i := 0) (n := 1072) dL_law_1071 rfl rfl rfl ?_
  refine J_iload_n (i := 3) (n := 1073) dL_law_1072 rfl rfl rfl ?_
  refine J_iconst (n := 1074) dL_law_1073 kI_3 rfl ?_
  refine J_iadd (n := 1075) dL_law_1074 rfl ?_
  try rw [nI_add]
  refine J_sld (n := 1076) dL_law_1075 (vp_in_nI (by omega) (by omega)) rfl ?_
  rw [nI_clamp (by omega)]
  refine J_callVx (n := 1079) wS_X7_see (K_eta 7 0 (c_N_see (Q := fun r h => r = some (.int ((sp_see S (gx_xs G (i + 1)) (gx_xs G (i + 2)) (gx_xs G (i + 3))).1)) ∧ ∃ v1, mR v1 ((sp_see S (gx_xs G (i + 1)) (gx_xs G (i + 2)) (gx_xs G (i + 3))).2) ∧ h = hp G (gs_set τ 7 0 v1)) (d + 7) (gx_xs G (i + 1)) (gx_xs G (i + 2)) (gx_xs G (i + 3)) hS (show mR (τ 7 0) S by rw [h7]; exact hm) (fun v1 h1 => ⟨rfl, v1, h1, rfl⟩))) dL_law_1076 wm_L_130 ⟨wM_X7_see, wV_X7_see⟩ rfl (T_recv (by decide) (by decide)) rfl rfl (Nat.le_of_ble_eq_true rfl) rfl (fun r h1 hq1 => ?_)
  obtain ⟨rfl, v1, hm1, rfl⟩ := hq1
  refine J_icmp_eq (tgt := 1450) (n := 1082) dL_law_1079 (by decide) rfl (fun c_1079 => ?_) (fun c_1079 => ?_)
  · exact k1450 _ ((sp_see S (gx_xs G (i + 1)) (gx_xs G (i + 2)) (gx_xs G (i + 3))).2) (ok_see hS (gx_xs G (i + 1)) (gx_xs G (i + 2)) (gx_xs G (i + 3))) hc1.model (by rw [gs_same]; exact hm1)
  · exact absurd rfl c_1079
set_option maxHeartbeats 4000000 in
set_option maxRecDepth 100000 in
theorem jl_forget {G : gx_G} {σ : gs_S} {Q : Option Value → gx_Hp → Prop} {S : pS} (d : Nat) {i : Nat} (hi : i + 5 ≤ G.2.2.2.2 7) (hL : G.2.2.2.2 7 ≤ 320) (hS : SOk S) (hc : cR σ S) (hm : mR (σ 7 0) S) (k1450 : ∀ τ S1, SOk S1 → cR τ S1 → mR (τ 7 0) S1 → gx_J G mL_law (d + 20) 0 0 Q 1450 [(0, .ref (G.2.2.2.1 7)), (1, .ref (gs_a G 6 0 0)), (2, .ref (gs_a G 7 0 0)), (3, .int (nI i))] [] (hp G τ)) : gx_J G mL_law (d + 20) 0 0 Q 1084 [(0, .ref (G.2.2.2.1 7)), (1, .ref (gs_a G 6 0 0)), (2, .ref (gs_a G 7 0 0)), (3, .int (nI i))] [] (hp G σ) := by
  refine J_aload_n (i := 1) (n := 1085) dL_law_1084 rfl rfl rfl ?_
  refine J_aload_n (i := 0) (n := 1086) dL_law_1085 rfl rfl rfl ?_
  refine J_iload_n (i := 3) (n := 1087) dL_law_1086 rfl rfl rfl ?_
  refine J_iconst (n := 1088) dL_law_1087 kI_1 rfl ?_
  refine J_iadd (n := 1089) dL_law_1088 rfl ?_
  try rw [nI_add]
  refine J_sld (n := 1090) dL_law_1089 (vp_in_nI (by omega) (by omega)) rfl ?_
  rw [nI_clamp (by omega)]
  refine J_callVx (n := 1093) wS_X6_forget (c_G_forget (Q := fun r h => r = some (.int ((sp_forget S (gx_xs G (i + 1))).1)) ∧ ∃ τ, cR τ ((sp_forget S (gx_xs G (i + 1))).2) ∧ τ 7 0 = σ 7 0 ∧ h = hp G τ) (d + 7) (gx_xs G (i + 1)) hS hc (fun τ h1 h2 => ⟨rfl, τ, h1, h2, rfl⟩)) dL_law_1090 wm_L_131 ⟨wM_X6_forget, wV_X6_forget⟩ rfl (T_recv (by decide) (by decide)) rfl rfl (Nat.le_of_ble_eq_true rfl) rfl (fun r h1 hq1 => ?_)
  obtain ⟨rfl, τ, hc1, h7, rfl⟩ := hq1
  refine J_aload_n (i := 2) (n := 1094) dL_law_1093 rfl rfl rfl ?_
  refine J_aload_n (i := 0) (n := 1095) dL_law_1094 rfl rfl rfl ?_
  refine J_iload_n (i := 3) (n := 1096) dL_law_1095 rfl rfl rfl ?_
  refine J_iconst (n := 1097) dL_law_1096 kI_1 rfl ?_
  refine J_iadd (n := 1098) dL_law_1097 rfl ?_
  try rw [nI_add]
  refine J_sld (n := 1099) dL_law_1098 (vp_in_nI (by omega) (by omega)) rfl ?_
  rw [nI_clamp (by omega)]
  refine J_callVx (n := 1102) wS_X7_forget (K_eta 7 0 (c_N_forget (Q := fun r h => r = some (.int ((sp_forget S (gx_xs G (i + 1))).1)) ∧ ∃ v1, mR v1 ((sp_forget S (gx_xs G (i + 1))).2) ∧ h = hp G (gs_set τ 7 0 v1)) (d + 7) (gx_xs G (i + 1)) hS (show mR (τ 7 0) S by rw [h7]; exact hm) (fun v1 h1 => ⟨rfl, v1, h1, rfl⟩))) dL_law_1099 wm_L_134 ⟨wM_X7_forget, wV_X7_forget⟩ rfl (T_recv (by decide) (by decide)) rfl rfl (Nat.le_of_ble_eq_true rfl) rfl (fun r h1 hq1 => ?_)
  obtain ⟨rfl, v1, hm1, rfl⟩ := hq1
  refine J_icmp_eq (tgt := 1450) (n := 1105) dL_law_1102 (by decide) rfl (fun c_1102 => ?_) (fun c_1102 => ?_)
  · exact k1450 _ ((sp_forget S (gx_xs G (i + 1))).2) (ok_forget hS (gx_xs G (i + 1))) hc1.model (by rw [gs_same]; exact hm1)
  · exact absurd rfl c_1102
set_option maxHeartbeats 4000000 in
set_option maxRecDepth 100000 in
theorem jl_kinds {G : gx_G} {σ : gs_S} {Q : Option Value → gx_Hp → Prop} {S : pS} (d : Nat) {i : Nat} (hi : i + 5 ≤ G.2.2.2.2 7) (hL : G.2.2.2.2 7 ≤ 320) (hS : SOk S) (hc : cR σ S) (hm : mR (σ 7 0) S) (k1450 : ∀ τ S1, SOk S1 → cR τ S1 → mR (τ 7 0) S1 → gx_J G mL_law (d + 20) 0 0 Q 1450 [(0, .ref (G.2.2.2.1 7)), (1, .ref (gs_a G 6 0 0)), (2, .ref (gs_a G 7 0 0)), (3, .int (nI i))] [] (hp G τ)) : gx_J G mL_law (d + 20) 0 0 Q 1107 [(0, .ref (G.2.2.2.1 7)), (1, .ref (gs_a G 6 0 0)), (2, .ref (gs_a G 7 0 0)), (3, .int (nI i))] [] (hp G σ) := by
  refine J_aload_n (i := 1) (n := 1108) dL_law_1107 rfl rfl rfl ?_
  refine J_aload_n (i := 0) (n := 1109) dL_law_1108 rfl rfl rfl ?_
  refine J_iload_n (i := 3) (n := 1110) dL_law_1109 rfl rfl rfl ?_
  refine J_iconst (n := 1111) dL_law_1110 kI_1 rfl ?_
  refine J_iadd (n := 1112) dL_law_1111 rfl ?_
  try rw [nI_add]
  refine J_sld (n := 1113) dL_law_1112 (vp_in_nI (by omega) (by omega)) rfl ?_
  rw [nI_clamp (by omega)]
  refine J_callVx (n := 1116) wS_X6_kinds (c_G_kinds (Q := fun r h => r = some (.int (sp_kinds S (gx_xs G (i + 1)))) ∧ ∃ τ, cR τ (S) ∧ τ 7 0 = σ 7 0 ∧ h = hp G τ) (d + 7) (gx_xs G (i + 1)) hS hc (fun τ h1 h2 => ⟨rfl, τ, h1, h2, rfl⟩)) dL_law_1113 wm_L_135 ⟨wM_X6_kinds, wV_X6_kinds⟩ rfl (T_recv (by decide) (by decide)) rfl rfl (Nat.le_of_ble_eq_true rfl) rfl (fun r h1 hq1 => ?_)
  obtain ⟨rfl, τ, hc1, h7, rfl⟩ := hq1
  refine J_aload_n (i := 2) (n := 1117) dL_law_1116 rfl rfl rfl ?_
  refine J_aload_n (i := 0) (n := 1118) dL_law_1117 rfl rfl rfl ?_
  refine J_iload_n (i := 3) (n := 1119) dL_law_1118 rfl rfl rfl ?_
  refine J_iconst (n := 1120) dL_law_1119 kI_1 rfl ?_
  refine J_iadd (n := 1121) dL_law_1120 rfl ?_
  try rw [nI_add]
  refine J_sld (n := 1122) dL_law_1121 (vp_in_nI (by omega) (by omega)) rfl ?_
  rw [nI_clamp (by omega)]
  refine J_callVx (n := 1125) wS_X7_kinds (K_eta 7 0 (c_N_kinds (Q := fun r h => r = some (.int (sp_kinds S (gx_xs G (i + 1)))) ∧ ∃ v1, mR v1 (S) ∧ h = hp G (gs_set τ 7 0 v1)) (d + 7) (gx_xs G (i + 1)) hS (show mR (τ 7 0) S by rw [h7]; exact hm) (fun v1 h1 => ⟨rfl, v1, h1, rfl⟩))) dL_law_1122 wm_L_138 ⟨wM_X7_kinds, wV_X7_kinds⟩ rfl (T_recv (by decide) (by decide)) rfl rfl (Nat.le_of_ble_eq_true rfl) rfl (fun r h1 hq1 => ?_)
  obtain ⟨rfl, v1, hm1, rfl⟩ := hq1
  refine J_icmp_eq (tgt := 1450) (n := 1128) dL_law_1125 (by decide) rfl (fun c_1125 => ?_) (fun c_1125 => ?_)
  · exact k1450 _ (S) hS hc1.model (by rw [gs_same]; exact hm1)
  · exact absurd rfl c_1125
set_option maxHeartbeats 4000000 in
set_option maxRecDepth 100000 in
theorem jl_doors {G : gx_G} {σ : gs_S} {Q : Option Value → gx_Hp → Prop} {S : pS} (d : Nat) {i : Nat} (hi : i + 5 ≤ G.2.2.2.2 7) (hL : G.2.2.2.2 7 ≤ 320) (hS : SOk S) (hc : cR σ S) (hm : mR (σ 7 0) S) (k1450 : ∀ τ S1, SOk S1 → cR τ S1 → mR (τ 7 0) S1 → gx_J G mL_law (d + 20) 0 0 Q 1450 [(0, .ref (G.2.2.2.1 7)), (1, .ref (gs_a G 6 0 0)), (2, .ref (gs_a G 7 0 0)), (3, .int (nI i))] [] (hp G τ)) : gx_J G mL_law (d + 20) 0 0 Q 1130 [(0, .ref (G.2.2.2.1 7)), (1, .ref (gs_a G 6 0 0)), (2, .ref (gs_a G 7 0 0)), (3, .int (nI i))] [] (hp G σ) := by
  refine J_aload_n (i := 1) (n := 1131) dL_law_1130 rfl rfl rfl ?_
  refine J_aload_n (i := 0) (n := 1132) dL_law_1131 rfl rfl rfl ?_
  refine J_iload_n (i := 3) (n := 1133) dL_law_1132 rfl rfl rfl ?_
  refine J_iconst (n := 1134) dL_law_1133 kI_1 rfl ?_
  refine J_iadd (n := 1135) dL_law_1134 rfl ?_
  try rw [nI_add]
  refine J_sld (n := 1136) dL_law_1135 (vp_in_nI (by omega) (by omega)) rfl ?_
  rw [nI_clamp (by omega)]
  refine J_callVx (n := 1139) wS_X6_doors (c_G_doors (Q := fun r h => r = some (.int (sp_doors S (gx_xs G (i + 1)))) ∧ ∃ τ, cR τ (S) ∧ τ 7 0 = σ 7 0 ∧ h = hp G τ) (d + 7) (gx_xs G (i + 1)) hS hc (fun τ h1 h2 => ⟨rfl, τ, h1, h2, rfl⟩)) dL_law_1136 wm_L_139 ⟨wM_X6_doors, wV_X6_doors⟩ rfl (T_recv (by decide) (by decide)) rfl rfl (Nat.le_of_ble_eq_true rfl) rfl (fun r h1 hq1 => ?_)
  obtain ⟨rfl, τ, hc1, h7, rfl⟩ := hq1
  refine J_aload_n (i := 2) (n := 1140) dL_law_1139 rfl rfl rfl ?_
  refine J_aload_n (i := 0) (n := 1141) dL_law_1140 rfl rfl rfl ?_
  refine J_iload_n (i := 3) (n := 1142) dL_law_1141 rfl rfl rfl ?_
  refine J_iconst (n := 1143) dL_law_1142 kI_1 rfl ?_
  refine J_iadd (n := 1144) dL_law_1143 rfl ?_
  try rw [nI_add]
  refine J_sld (n := 1145) dL_law_1144 (vp_in_nI (by omega) (by omega)) rfl ?_
  rw [nI_clamp (by omega)]
  refine J_callVx (n := 1148) wS_X7_doors (K_eta 7 0 (c_N_doors (Q := fun r h => r = some (.int (sp_doors S (gx_xs G (i + 1)))) ∧ ∃ v1, mR v1 (S) ∧ h = hp G (gs_set τ 7 0 v1)) (d + 7) (gx_xs G (i + 1)) hS (show mR (τ 7 0) S by rw [h7]; exact hm) (fun v1 h1 => ⟨rfl, v1, h1, rfl⟩))) dL_law_1145 wm_L_142 ⟨wM_X7_doors, wV_X7_doors⟩ rfl (T_recv (by decide) (by decide)) rfl rfl (Nat.le_of_ble_eq_true rfl) rfl (fun r h1 hq1 => ?_)
  obtain ⟨rfl, v1, hm1, rfl⟩ := hq1
  refine J_icmp_eq (tgt := 1450) (n := 1151) dL_law_1148 (by decide) rfl (fun c_1148 => ?_) (fun c_1148 => ?_)
  · exact k1450 _ (S) hS hc1.model (by rw [gs_same]; exact hm1)
  · exact absurd rfl c_1148
set_option maxHeartbeats 4000000 in
set_option maxRecDepth 100000 in
theorem jl_ask {G : gx_G} {σ : gs_S} {Q : Option Value → gx_Hp → Prop} {S : pS} (d : Nat) {i : Nat} (hi : i + 5 ≤ G.2.2.2.2 7) (hL : G.2.2.2.2 7 ≤ 320) (hS : SOk S) (hc : cR σ S) (hm : mR (σ 7 0) S) (k1450 : ∀ τ S1, SOk S1 → cR τ S1 → mR (τ 7 0) S1 → gx_J G mL_law (d + 20) 0 0 Q 1450 [(0, .ref (G.2.2.2.1 7)), (1, .ref (gs_a G 6 0 0)), (2, .ref (gs_a G 7 0 0)), (3, .int (nI i))] [] (hp G τ)) : gx_J G mL_law (d + 20) 0 0 Q 1153 [(0, .ref (G.2.2.2.1 7)), (1, .ref (gs_a G 6 0 0)), (2, .ref (gs_a G 7 0 0)), (3, .int (nI i))] [] (hp G σ) := by
  refine J_aload_n (i := 1) (n := 1154) dL_law_1153 rfl rfl rfl ?_
  refine J_aload_n (i := 0) (n := 1155) dL_law_1154 rfl rfl rfl ?_
  refine J_iload_n (i := 3) (n := 1156) dL_law_1155 rfl rfl rfl ?_
  refine J_iconst (n := 1157) dL_law_1156 kI_1 rfl ?_
  refine J_iadd (n := 1158) dL_law_1157 rfl ?_
  try rw [nI_add]
  refine J_sld (n := 1159) dL_law_1158 (vp_in_nI (by omega) (by omega)) rfl ?_
  rw [nI_clamp (by omega)]
  refine J_aload_n (i := 0) (n := 1160) dL_law_1159 rfl rfl rfl ?_
  refine J_iload_n (i := 3) (n := 1161) dL_law_1160 rfl rfl rfl ?_
  refine J_iconst (n := 1162) dL_law_1161 kI_2 rfl ?_
  refine J_iadd (n := 1163) dL_law_1162 rfl ?_
  try rw [nI_add]
  refine J_sld (n := 1164) dL_law_1163 (vp_in_nI (by omega) (by omega)) rfl ?_
  rw [nI_clamp (by omega)]
  refine J_callVx (n := 1167) wS_X6_ask (c_G_ask (Q := fun r h => r = some (.int (sp_ask S (gx_xs G (i + 1)) (gx_xs G (i + 2)))) ∧ ∃ τ, cR τ (S) ∧ τ 7 0 = σ 7 0 ∧ h = hp G τ) (d + 7) (gx_xs G (i + 1)) (gx_xs G (i + 2)) hS hc (fun τ h1 h2 => ⟨rfl, τ, h1, h2, rfl⟩)) dL_law_1164 wm_L_143 ⟨wM_X6_ask, wV_X6_ask⟩ rfl (T_recv (by decide) (by decide)) rfl rfl (Nat.le_of_ble_eq_true rfl) rfl (fun r h1 hq1 => ?_)
  obtain ⟨rfl, τ, hc1, h7, rfl⟩ := hq1
  refine J_aload_n (i := 2) (n := 1168) dL_law_1167 rfl rfl rfl ?_
  refine J_aload_n (i := 0) (n := 1169) dL_law_1168 rfl rfl rfl ?_
  refine J_iload_n (i := 3) (n := 1170) dL_law_1169 rfl rfl rfl ?_
  refine J_iconst (n := 1171) dL_law_1170 kI_1 rfl ?_
  refine J_iadd (n := 1172) dL_law_1171 rfl ?_
  try rw [nI_add]
  refine J_sld (n := 1173) dL_law_1172 (vp_in_nI (by omega) (by omega)) rfl ?_
  rw [nI_clamp (by omega)]
  refine J_aload_n (i := 0) (n := 1174) dL_law_1173 rfl rfl rfl ?_
  refine J_iload_n (i := 3) (n := 1175) dL_law_1174 rfl rfl rfl ?_
  refine J_iconst (n := 1176) dL_law_1175 kI_2 rfl ?_
  refine J_iadd (n := 1177) dL_law_1176 rfl ?_
  try rw [nI_add]
  refine J_sld (n := 1178) dL_law_1177 (vp_in_nI (by omega) (by omega)) rfl ?_
  rw [nI_clamp (by omega)]
  refine J_callVx (n := 1181) wS_X7_ask (K_eta 7 0 (c_N_ask (Q := fun r h => r = some (.int (sp_ask S (gx_xs G (i + 1)) (gx_xs G (i + 2)))) ∧ ∃ v1, mR v1 (S) ∧ h = hp G (gs_set τ 7 0 v1)) (d + 7) (gx_xs G (i + 1)) (gx_xs G (i + 2)) hS (show mR (τ 7 0) S by rw [h7]; exact hm) (fun v1 h1 => ⟨rfl, v1, h1, rfl⟩))) dL_law_1178 wm_L_146 ⟨wM_X7_ask, wV_X7_ask⟩ rfl (T_recv (by decide) (by decide)) rfl rfl (Nat.le_of_ble_eq_true rfl) rfl (fun r h1 hq1 => ?_)
  obtain ⟨rfl, v1, hm1, rfl⟩ := hq1
  refine J_icmp_eq (tgt := 1450) (n := 1184) dL_law_1181 (by decide) rfl (fun c_1181 => ?_) (fun c_1181 => ?_)
  · exact k1450 _ (S) hS hc1.model (by rw [gs_same]; exact hm1)
  · exact absurd rfl c_1181
set_option maxHeartbeats 4000000 in
set_option maxRecDepth 100000 in
theorem jl_drift {G : gx_G} {σ : gs_S} {Q : Option Value → gx_Hp → Prop} {S : pS} (d : Nat) {i : Nat} (hi : i + 5 ≤ G.2.2.2.2 7) (hL : G.2.2.2.2 7 ≤ 320) (hS : SOk S) (hc : cR σ S) (hm : mR (σ 7 0) S) (k1450 : ∀ τ S1, SOk S1 → cR τ S1 → mR (τ 7 0) S1 → gx_J G mL_law (d + 20) 0 0 Q 1450 [(0, .ref (G.2.2.2.1 7)), (1, .ref (gs_a G 6 0 0)), (2, .ref (gs_a G 7 0 0)), (3, .int (nI i))] [] (hp G τ)) : gx_J G mL_law (d + 20) 0 0 Q 1186 [(0, .ref (G.2.2.2.1 7)), (1, .ref (gs_a G 6 0 0)), (2, .ref (gs_a G 7 0 0)), (3, .int (nI i))] [] (hp G σ) := by
  refine J_aload_n (i := 1) (n := 1187) dL_law_1186 rfl rfl rfl ?_
  refine J_aload_n (i := 0) (n := 1188) dL_law_1187 rfl rfl rfl ?_
  refine J_iload_n (i := 3) (n := 1189) dL_law_1188 rfl rfl rfl ?_
  refine J_iconst (n := 1190) dL_law_1189 kI_1 rfl ?_
  refine J_iadd (n := 1191) dL_law_1190 rfl ?_
  try rw [nI_add]
  refine J_sld (n := 1192) dL_law_1191 (vp_in_nI (by omega) (by omega)) rfl ?_
  rw [nI_clamp (by omega)]
  refine J_aload_n (i := 0) (n := 1193) dL_law_1192 rfl rfl rfl ?_
  refine J_iload_n (i := 3) (n := 1194) dL_law_1193 rfl rfl rfl ?_
  refine J_iconst (n := 1195) dL_law_1194 kI_2 rfl ?_
  refine J_iadd (n := 1196) dL_law_1195 rfl ?_
  try rw [nI_add]
  refine J_sld (n := 1197) dL_law_1196 (vp_in_nI (by omega) (by omega)) rfl ?_
  rw [nI_clamp (by omega)]
  refine J_aload_n (i := 0) (n := 1198) dL_law_1197 rfl rfl rfl ?_
  refine J_iload_n (i := 3) (n := 1199) dL_law_1198 rfl rfl rfl ?_
  refine J_iconst (n := 1200) dL_law_1199 kI_3 rfl ?_
  refine J_iadd (n := 1201) dL_law_1200 rfl ?_
  try rw [nI_add]
  refine J_sld (n := 1202) dL_law_1201 (vp_in_nI (by omega) (by omega)) rfl ?_
  rw [nI_clamp (by omega)]
  refine J_callVx (n := 1205) wS_X6_drift (c_G_drift (Q := fun r h => r = some (.int (sp_drift S (gx_xs G (i + 1)) (gx_xs G (i + 2)) (gx_xs G (i + 3)))) ∧ ∃ τ, cR τ (S) ∧ τ 7 0 = σ 7 0 ∧ h = hp G τ) (d + 7) (gx_xs G (i + 1)) (gx_xs G (i + 2)) (gx_xs G (i + 3)) hS hc (fun τ h1 h2 => ⟨rfl, τ, h1, h2, rfl⟩)) dL_law_1202 wm_L_147 ⟨wM_X6_drift, wV_X6_drift⟩ rfl (T_recv (by decide) (by decide)) rfl rfl (Nat.le_of_ble_eq_true rfl) rfl (fun r h1 hq1 => ?_)
  obtain ⟨rfl, τ, hc1, h7, rfl⟩ := hq1
  refine J_aload_n (i := 2) (n := 1206) dL_law_1205 rfl rfl rfl ?_
  refine J_aload_n (i := 0) (n := 1207) dL_law_1206 rfl rfl rfl ?_
  refine J_iload_n (i := 3) (n := 1208) dL_law_1207 rfl rfl rfl ?_
  refine J_iconst (n := 1209) dL_law_1208 kI_1 rfl ?_
  refine J_iadd (n := 1210) dL_law_1209 rfl ?_
  try rw [nI_add]
  refine J_sld (n := 1211) dL_law_1210 (vp_in_nI (by omega) (by omega)) rfl ?_
  rw [nI_clamp (by omega)]
  refine J_aload_n (i := 0) (n := 1212) dL_law_1211 rfl rfl rfl ?_
  refine J_iload_n (i := 3) (n := 1213) dL_law_1212 rfl rfl rfl ?_
  refine J_iconst (n := 1214) dL_law_1213 kI_2 rfl ?_
  refine J_iadd (n := 1215) dL_law_1214 rfl ?_
  try rw [nI_add]
  refine J_sld (n := 1216) dL_law_1215 (vp_in_nI (by omega) (by omega)) rfl ?_
  rw [nI_clamp (by omega)]
  refine J_aload_n (i := 0) (n := 1217) dL_law_1216 rfl rfl rfl ?_
  refine J_iload_n (i := 3) (n := 1218) dL_law_1217 rfl rfl rfl ?_
  refine J_iconst (n := 1219) dL_law_1218 kI_3 rfl ?_
  refine J_iadd (n := 1220) dL_law_1219 rfl ?_
  try rw [nI_add]
  refine J_sld (n := 1221) dL_law_1220 (vp_in_nI (by omega) (by omega)) rfl ?_
  rw [nI_clamp (by omega)]
  refine J_callVx (n := 1224) wS_X7_drift (K_eta 7 0 (c_N_drift (Q := fun r h => r = some (.int (sp_drift S (gx_xs G (i + 1)) (gx_xs G (i + 2)) (gx_xs G (i + 3)))) ∧ ∃ v1, mR v1 (S) ∧ h = hp G (gs_set τ 7 0 v1)) (d + 7) (gx_xs G (i + 1)) (gx_xs G (i + 2)) (gx_xs G (i + 3)) hS (show mR (τ 7 0) S by rw [h7]; exact hm) (fun v1 h1 => ⟨rfl, v1, h1, rfl⟩))) dL_law_1221 wm_L_150 ⟨wM_X7_drift, wV_X7_drift⟩ rfl (T_recv (by decide) (by decide)) rfl rfl (Nat.le_of_ble_eq_true rfl) rfl (fun r h1 hq1 => ?_)
  obtain ⟨rfl, v1, hm1, rfl⟩ := hq1
  refine J_icmp_eq (tgt := 1450) (n := 1227) dL_law_1224 (by decide) rfl (fun c_1224 => ?_) (fun c_1224 => ?_)
  · exact k1450 _ (S) hS hc1.model (by rw [gs_same]; exact hm1)
  · exact absurd rfl c_1224
set_option maxHeartbeats 4000000 in
set_option maxRecDepth 100000 in
theorem jl_keep {G : gx_G} {σ : gs_S} {Q : Option Value → gx_Hp → Prop} {S : pS} (d : Nat) {i : Nat} (hi : i + 5 ≤ G.2.2.2.2 7) (hL : G.2.2.2.2 7 ≤ 320) (hS : SOk S) (hc : cR σ S) (hm : mR (σ 7 0) S) (k1450 : ∀ τ S1, SOk S1 → cR τ S1 → mR (τ 7 0) S1 → gx_J G mL_law (d + 20) 0 0 Q 1450 [(0, .ref (G.2.2.2.1 7)), (1, .ref (gs_a G 6 0 0)), (2, .ref (gs_a G 7 0 0)), (3, .int (nI i))] [] (hp G τ)) : gx_J G mL_law (d + 20) 0 0 Q 1229 [(0, .ref (G.2.2.2.1 7)), (1, .ref (gs_a G 6 0 0)), (2, .ref (gs_a G 7 0 0)), (3, .int (nI i))] [] (hp G σ) := by
  refine J_aload_n (i := 1) (n := 1230) dL_law_1229 rfl rfl rfl ?_
  refine J_aload_n (i := 0) (n := 1231) dL_law_1230 rfl rfl rfl ?_
  refine J_iload_n (i := 3) (n := 1232) dL_law_1231 rfl rfl rfl ?_
  refine J_iconst (n := 1233) dL_law_1232 kI_1 rfl ?_
  refine J_iadd (n := 1234) dL_law_1233 rfl ?_
  try rw [nI_add]
  refine J_sld (n := 1235) dL_law_1234 (vp_in_nI (by omega) (by omega)) rfl ?_
  rw [nI_clamp (by omega)]
  refine J_callVx (n := 1238) wS_X6_keep (c_G_keep (Q := fun r h => r = some (.int ((sp_keep S (gx_xs G (i + 1))).1)) ∧ ∃ τ, cR τ ((sp_keep S (gx_xs G (i + 1))).2) ∧ τ 7 0 = σ 7 0 ∧ h = hp G τ) (d + 7) (gx_xs G (i + 1)) hS hc (fun τ h1 h2 => ⟨rfl, τ, h1, h2, rfl⟩)) dL_law_1235 wm_L_151 ⟨wM_X6_keep, wV_X6_keep⟩ rfl (T_recv (by decide) (by decide)) rfl rfl (Nat.le_of_ble_eq_true rfl) rfl (fun r h1 hq1 => ?_)
  obtain ⟨rfl, τ, hc1, h7, rfl⟩ := hq1
  refine J_aload_n (i := 2) (n := 1239) dL_law_1238 rfl rfl rfl ?_
  refine J_aload_n (i := 0) (n := 1240) dL_law_1239 rfl rfl rfl ?_
  refine J_iload_n (i := 3) (n := 1241) dL_law_1240 rfl rfl rfl ?_
  refine J_iconst (n := 1242) dL_law_1241 kI_1 rfl ?_
  refine J_iadd (n := 1243) dL_law_1242 rfl ?_
  try rw [nI_add]
  refine J_sld (n := 1244) dL_law_1243 (vp_in_nI (by omega) (by omega)) rfl ?_
  rw [nI_clamp (by omega)]
  refine J_callVx (n := 1247) wS_X7_keep (K_eta 7 0 (c_N_keep (Q := fun r h => r = some (.int ((sp_keep S (gx_xs G (i + 1))).1)) ∧ ∃ v1, mR v1 ((sp_keep S (gx_xs G (i + 1))).2) ∧ h = hp G (gs_set τ 7 0 v1)) (d + 7) (gx_xs G (i + 1)) hS (show mR (τ 7 0) S by rw [h7]; exact hm) (fun v1 h1 => ⟨rfl, v1, h1, rfl⟩))) dL_law_1244 wm_L_154 ⟨wM_X7_keep, wV_X7_keep⟩ rfl (T_recv (by decide) (by decide)) rfl rfl (Nat.le_of_ble_eq_true rfl) rfl (fun r h1 hq1 => ?_)
  obtain ⟨rfl, v1, hm1, rfl⟩ := hq1
  refine J_icmp_eq (tgt := 1450) (n := 1250) dL_law_1247 (by decide) rfl (fun c_1247 => ?_) (fun c_1247 => ?_)
  · exact k1450 _ ((sp_keep S (gx_xs G (i + 1))).2) (ok_keep hS (gx_xs G (i + 1))) hc1.model (by rw [gs_same]; exact hm1)
  · exact absurd rfl c_1247
set_option maxHeartbeats 4000000 in
set_option maxRecDepth 100000 in
theorem jl_back {G : gx_G} {σ : gs_S} {Q : Option Value → gx_Hp → Prop} {S : pS} (d : Nat) {i : Nat} (hi : i + 5 ≤ G.2.2.2.2 7) (hL : G.2.2.2.2 7 ≤ 320) (hS : SOk S) (hc : cR σ S) (hm : mR (σ 7 0) S) (k1450 : ∀ τ S1, SOk S1 → cR τ S1 → mR (τ 7 0) S1 → gx_J G mL_law (d + 20) 0 0 Q 1450 [(0, .ref (G.2.2.2.1 7)), (1, .ref (gs_a G 6 0 0)), (2, .ref (gs_a G 7 0 0)), (3, .int (nI i))] [] (hp G τ)) : gx_J G mL_law (d + 20) 0 0 Q 1252 [(0, .ref (G.2.2.2.1 7)), (1, .ref (gs_a G 6 0 0)), (2, .ref (gs_a G 7 0 0)), (3, .int (nI i))] [] (hp G σ) := by
  refine J_aload_n (i := 1) (n := 1253) dL_law_1252 rfl rfl rfl ?_
  refine J_aload_n (i := 0) (n := 1254) dL_law_1253 rfl rfl rfl ?_
  refine J_iload_n (i := 3) (n := 1255) dL_law_1254 rfl rfl rfl ?_
  refine J_iconst (n := 1256) dL_law_1255 kI_1 rfl ?_
  refine J_iadd (n := 1257) dL_law_1256 rfl ?_
  try rw [nI_add]
  refine J_sld (n := 1258) dL_law_1257 (vp_in_nI (by omega) (by omega)) rfl ?_
  rw [nI_clamp (by omega)]
  refine J_callVx (n := 1261) wS_X6_back (c_G_back (Q := fun r h => r = some (.int ((sp_back S (gx_xs G (i + 1))).1)) ∧ ∃ τ, cR τ ((sp_back S (gx_xs G (i + 1))).2) ∧ τ 7 0 = σ 7 0 ∧ h = hp G τ) (d + 7) (gx_xs G (i + 1)) hS hc (fun τ h1 h2 => ⟨rfl, τ, h1, h2, rfl⟩)) dL_law_1258 wm_L_155 ⟨wM_X6_back, wV_X6_back⟩ rfl (T_recv (by decide) (by decide)) rfl rfl (Nat.le_of_ble_eq_true rfl) rfl (fun r h1 hq1 => ?_)
  obtain ⟨rfl, τ, hc1, h7, rfl⟩ := hq1
  refine J_aload_n (i := 2) (n := 1262) dL_law_1261 rfl rfl rfl ?_
  refine J_aload_n (i := 0) (n := 1263) dL_law_1262 rfl rfl rfl ?_
  refine J_iload_n (i := 3) (n := 1264) dL_law_1263 rfl rfl rfl ?_
  refine J_iconst (n := 1265) dL_law_1264 kI_1 rfl ?_
  refine J_iadd (n := 1266) dL_law_1265 rfl ?_
  try rw [nI_add]
  refine J_sld (n := 1267) dL_law_1266 (vp_in_nI (by omega) (by omega)) rfl ?_
  rw [nI_clamp (by omega)]
  refine J_callVx (n := 1270) wS_X7_back (K_eta 7 0 (c_N_back (Q := fun r h => r = some (.int ((sp_back S (gx_xs G (i + 1))).1)) ∧ ∃ v1, mR v1 ((sp_back S (gx_xs G (i + 1))).2) ∧ h = hp G (gs_set τ 7 0 v1)) (d + 7) (gx_xs G (i + 1)) hS (show mR (τ 7 0) S by rw [h7]; exact hm) (fun v1 h1 => ⟨rfl, v1, h1, rfl⟩))) dL_law_1267 wm_L_158 ⟨wM_X7_back, wV_X7_back⟩ rfl (T_recv (by decide) (by decide)) rfl rfl (Nat.le_of_ble_eq_true rfl) rfl (fun r h1 hq1 => ?_)
  obtain ⟨rfl, v1, hm1, rfl⟩ := hq1
  refine J_icmp_eq (tgt := 1450) (n := 1273) dL_law_1270 (by decide) rfl (fun c_1270 => ?_) (fun c_1270 => ?_)
  · exact k1450 _ ((sp_back S (gx_xs G (i + 1))).2) (ok_back hS (gx_xs G (i + 1))) hc1.model (by rw [gs_same]; exact hm1)
  · exact absurd rfl c_1270
set_option maxHeartbeats 4000000 in
set_option maxRecDepth 100000 in
theorem jl_sheet {G : gx_G} {σ : gs_S} {Q : Option Value → gx_Hp → Prop} {S : pS} (d : Nat) {i : Nat} (hi : i + 5 ≤ G.2.2.2.2 7) (hL : G.2.2.2.2 7 ≤ 320) (hS : SOk S) (hc : cR σ S) (hm : mR (σ 7 0) S) (k1450 : ∀ τ S1, SOk S1 → cR τ S1 → mR (τ 7 0) S1 → gx_J G mL_law (d + 20) 0 0 Q 1450 [(0, .ref (G.2.2.2.1 7)), (1, .ref (gs_a G 6 0 0)), (2, .ref (gs_a G 7 0 0)), (3, .int (nI i))] [] (hp G τ)) : gx_J G mL_law (d + 20) 0 0 Q 1275 [(0, .ref (G.2.2.2.1 7)), (1, .ref (gs_a G 6 0 0)), (2, .ref (gs_a G 7 0 0)), (3, .int (nI i))] [] (hp G σ) := by
  refine J_aload_n (i := 1) (n := 1276) dL_law_1275 rfl rfl rfl ?_
  refine J_aload_n (i := 0) (n := 1277) dL_law_1276 rfl rfl rfl ?_
  refine J_iload_n (i := 3) (n := 1278) dL_law_1277 rfl rfl rfl ?_
  refine J_iconst (n := 1279) dL_law_1278 kI_1 rfl ?_
  refine J_iadd (n := 1280) dL_law_1279 rfl ?_
  try rw [nI_add]
  refine J_sld (n := 1281) dL_law_1280 (vp_in_nI (by omega) (by omega)) rfl ?_
  rw [nI_clamp (by omega)]
  refine J_aload_n (i := 0) (n := 1282) dL_law_1281 rfl rfl rfl ?_
  refine J_iload_n (i := 3) (n := 1283) dL_law_1282 rfl rfl rfl ?_
  refine J_iconst (n := 1284) dL_law_1283 kI_2 rfl ?_
  refine J_iadd (n := 1285) dL_law_1284 rfl ?_
  try rw [nI_add]
  refine J_sld (n := 1286) dL_law_1285 (vp_in_nI (by omega) (by omega)) rfl ?_
  rw [nI_clamp (by omega)]
  refine J_aload_n (i := 0) (n := 1287) dL_law_1286 rfl rfl rfl ?_
  refine J_iload_n (i := 3) (n := 1288) dL_law_1287 rfl rfl rfl ?_
  refine J_iconst (n := 1289) dL_law_1288 kI_3 rfl ?_
  refine J_iadd (n := 1290) dL_law_1289 rfl ?_
  try rw [nI_add]
  refine J_sld (n := 1291) dL_law_1290 (vp_in_nI (by omega) (by omega)) rfl ?_
  rw [nI_clamp (by omega)]
  refine J_callVx (n := 1294) wS_X6_sheet (c_G_sheet (Q := fun r h => r = some (.int ((sp_sheet S (gx_xs G (i + 1)) (gx_xs G (i + 2)) (gx_xs G (i + 3))).1)) ∧ ∃ τ, cR τ ((sp_sheet S (gx_xs G (i + 1)) (gx_xs G (i + 2)) (gx_xs G (i + 3))).2) ∧ τ 7 0 = σ 7 0 ∧ h = hp G τ) (d + 7) (gx_xs G (i + 1)) (gx_xs G (i + 2)) (gx_xs G (i + 3)) hS hc (fun τ h1 h2 => ⟨rfl, τ, h1, h2, rfl⟩)) dL_law_1291 wm_L_159 ⟨wM_X6_sheet, wV_X6_sheet⟩ rfl (T_recv (by decide) (by decide)) rfl rfl (Nat.le_of_ble_eq_true rfl) rfl (fun r h1 hq1 => ?_)
  obtain ⟨rfl, τ, hc1, h7, rfl⟩ := hq1
  refine J_aload_n (i := 2) (n := 1295) dL_law_1294 rfl rfl rfl ?_
  refine J_aload_n (i := 0) (n := 1296) dL_law_1295 rfl rfl rfl ?_
  refine J_iload_n (i := 3) (n := 1297) dL_law_1296 rfl rfl rfl ?_
  refine J_iconst (n := 1298) dL_law_1297 kI_1 rfl ?_
  refine J_iadd (n := 1299) dL_law_1298 rfl ?_
  try rw [nI_add]
  refine J_sld (n := 1300) dL_law_1299 (vp_in_nI (by omega) (by omega)) rfl ?_
  rw [nI_clamp (by omega)]
  refine J_aload_n (i := 0) (n := 1301) dL_law_1300 rfl rfl rfl ?_
  refine J_iload_n (i := 3) (n := 1302) dL_law_1301 rfl rfl rfl ?_
  refine J_iconst (n := 1303) dL_law_1302 kI_2 rfl ?_
  refine J_iadd (n := 1304) dL_law_1303 rfl ?_
  try rw [nI_add]
  refine J_sld (n := 1305) dL_law_1304 (vp_in_nI (by omega) (by omega)) rfl ?_
  rw [nI_clamp (by omega)]
  refine J_aload_n (i := 0) (n := 1306) dL_law_1305 rfl rfl rfl ?_
  refine J_iload_n (i := 3) (n := 1307) dL_law_1306 rfl rfl rfl ?_
  refine J_iconst (n := 1308) dL_law_1307 kI_3 rfl ?_
  refine J_iadd (n := 1309) dL_law_1308 rfl ?_
  try rw [nI_add]
  refine J_sld (n := 1310) dL_law_1309 (vp_in_nI (by omega) (by omega)) rfl ?_
  rw [nI_clamp (by omega)]
  refine J_callVx (n := 1313) wS_X7_sheet (K_eta 7 0 (c_N_sheet (Q := fun r h => r = some (.int ((sp_sheet S (gx_xs G (i + 1)) (gx_xs G (i + 2)) (gx_xs G (i + 3))).1)) ∧ ∃ v1, mR v1 ((sp_sheet S (gx_xs G (i + 1)) (gx_xs G (i + 2)) (gx_xs G (i + 3))).2) ∧ h = hp G (gs_set τ 7 0 v1)) (d + 7) (gx_xs G (i + 1)) (gx_xs G (i + 2)) (gx_xs G (i + 3)) hS (show mR (τ 7 0) S by rw [h7]; exact hm) (fun v1 h1 => ⟨rfl, v1, h1, rfl⟩))) dL_law_1310 wm_L_162 ⟨wM_X7_sheet, wV_X7_sheet⟩ rfl (T_recv (by decide) (by decide)) rfl rfl (Nat.le_of_ble_eq_true rfl) rfl (fun r h1 hq1 => ?_)
  obtain ⟨rfl, v1, hm1, rfl⟩ := hq1
  refine J_icmp_eq (tgt := 1450) (n := 1316) dL_law_1313 (by decide) rfl (fun c_1313 => ?_) (fun c_1313 => ?_)
  · exact k1450 _ ((sp_sheet S (gx_xs G (i + 1)) (gx_xs G (i + 2)) (gx_xs G (i + 3))).2) (ok_sheet hS (gx_xs G (i + 1)) (gx_xs G (i + 2)) (gx_xs G (i + 3))) hc1.model (by rw [gs_same]; exact hm1)
  · exact absurd rfl c_1313
set_option maxHeartbeats 4000000 in
set_option maxRecDepth 100000 in
theorem jl_lay {G : gx_G} {σ : gs_S} {Q : Option Value → gx_Hp → Prop} {S : pS} (d : Nat) {i : Nat} (hi : i + 5 ≤ G.2.2.2.2 7) (hL : G.2.2.2.2 7 ≤ 320) (hS : SOk S) (hc : cR σ S) (hm : mR (σ 7 0) S) (k1450 : ∀ τ S1, SOk S1 → cR τ S1 → mR (τ 7 0) S1 → gx_J G mL_law (d + 20) 0 0 Q 1450 [(0, .ref (G.2.2.2.1 7)), (1, .ref (gs_a G 6 0 0)), (2, .ref (gs_a G 7 0 0)), (3, .int (nI i))] [] (hp G τ)) : gx_J G mL_law (d + 20) 0 0 Q 1318 [(0, .ref (G.2.2.2.1 7)), (1, .ref (gs_a G 6 0 0)), (2, .ref (gs_a G 7 0 0)), (3, .int (nI i))] [] (hp G σ) := by
  refine J_aload_n (i := 1) (n := 1319) dL_law_1318 rfl rfl rfl ?_
  refine J_aload_n (i := 0) (n := 1320) dL_law_1319 rfl rfl rfl ?_
  refine J_iload_n (i := 3) (n := 1321) dL_law_1320 rfl rfl rfl ?_
  refine J_iconst (n := 1322) dL_law_1321 kI_1 rfl ?_
  refine J_iadd (n := 1323) dL_law_1322 rfl ?_
  try rw [nI_add]
  refine J_sld (n := 1324) dL_law_1323 (vp_in_nI (by omega) (by omega)) rfl ?_
  rw [nI_clamp (by omega)]
  refine J_aload_n (i := 0) (n := 1325) dL_law_1324 rfl rfl rfl ?_
  refine J_iload_n (i := 3) (n := 1326) dL_law_1325 rfl rfl rfl ?_
  refine J_iconst (n := 1327) dL_law_1326 kI_2 rfl ?_
  refine J_iadd (n := 1328) dL_law_1327 rfl ?_
  try rw [nI_add]
  refine J_sld (n := 1329) dL_law_1328 (vp_in_nI (by omega) (by omega)) rfl ?_
  rw [nI_clamp (by omega)]
  refine J_aload_n (i := 0) (n := 1330) dL_law_1329 rfl rfl rfl ?_
  refine J_iload_n (i := 3) (n := 1331) dL_law_1330 rfl rfl rfl ?_
  refine J_iconst (n := 1332) dL_law_1331 kI_3 rfl ?_
  refine J_iadd (n := 1333) dL_law_1332 rfl ?_
  try rw [nI_add]
  refine J_sld (n := 1334) dL_law_1333 (vp_in_nI (by omega) (by omega)) rfl ?_
  rw [nI_clamp (by omega)]
  refine J_callVx (n := 1337) wS_X6_lay (c_G_lay (Q := fun r h => r = some (.int ((sp_lay S (gx_xs G (i + 1)) (gx_xs G (i + 2)) (gx_xs G (i + 3))).1)) ∧ ∃ τ, cR τ ((sp_lay S (gx_xs G (i + 1)) (gx_xs G (i + 2)) (gx_xs G (i + 3))).2) ∧ τ 7 0 = σ 7 0 ∧ h = hp G τ) (d + 7) (gx_xs G (i + 1)) (gx_xs G (i + 2)) (gx_xs G (i + 3)) hS hc (fun τ h1 h2 => ⟨rfl, τ, h1, h2, rfl⟩)) dL_law_1334 wm_L_163 ⟨wM_X6_lay, wV_X6_lay⟩ rfl (T_recv (by decide) (by decide)) rfl rfl (Nat.le_of_ble_eq_true rfl) rfl (fun r h1 hq1 => ?_)
  obtain ⟨rfl, τ, hc1, h7, rfl⟩ := hq1
  refine J_aload_n (i := 2) (n := 1338) dL_law_1337 rfl rfl rfl ?_
  refine J_aload_n (i := 0) (n := 1339) dL_law_1338 rfl rfl rfl ?_
  refine J_iload_n (i := 3) (n := 1340) dL_law_1339 rfl rfl rfl ?_
  refine J_iconst (n := 1341) dL_law_1340 kI_1 rfl ?_
  refine J_iadd (n := 1342) dL_law_1341 rfl ?_
  try rw [nI_add]
  refine J_sld (n := 1343) dL_law_1342 (vp_in_nI (by omega) (by omega)) rfl ?_
  rw [nI_clamp (by omega)]
  refine J_aload_n (i := 0) (n := 1344) dL_law_1343 rfl rfl rfl ?_
  refine J_iload_n (i := 3) (n := 1345) dL_law_1344 rfl rfl rfl ?_
  refine J_iconst (n := 1346) dL_law_1345 kI_2 rfl ?_
  refine J_iadd (n := 1347) dL_law_1346 rfl ?_
  try rw [nI_add]
  refine J_sld (n := 1348) dL_law_1347 (vp_in_nI (by omega) (by omega)) rfl ?_
  rw [nI_clamp (by omega)]
  refine J_aload_n (i := 0) (n := 1349) dL_law_1348 rfl rfl rfl ?_
  refine J_iload_n (i := 3) (n := 1350) dL_law_1349 rfl rfl rfl ?_
  refine J_iconst (n := 1351) dL_law_1350 kI_3 rfl ?_
  refine J_iadd (n := 1352) dL_law_1351 rfl ?_
  try rw [nI_add]
  refine J_sld (n := 1353) dL_law_1352 (vp_in_nI (by omega) (by omega)) rfl ?_
  rw [nI_clamp (by omega)]
  refine J_callVx (n := 1356) wS_X7_lay (K_eta 7 0 (c_N_lay (Q := fun r h => r = some (.int ((sp_lay S (gx_xs G (i + 1)) (gx_xs G (i + 2)) (gx_xs G (i + 3))).1)) ∧ ∃ v1, mR v1 ((sp_lay S (gx_xs G (i + 1)) (gx_xs G (i + 2)) (gx_xs G (i + 3))).2) ∧ h = hp G (gs_set τ 7 0 v1)) (d + 7) (gx_xs G (i + 1)) (gx_xs G (i + 2)) (gx_xs G (i + 3)) hS (show mR (τ 7 0) S by rw [h7]; exact hm) (fun v1 h1 => ⟨rfl, v1, h1, rfl⟩))) dL_law_1353 wm_L_166 ⟨wM_X7_lay, wV_X7_lay⟩ rfl (T_recv (by decide) (by decide)) rfl rfl (Nat.le_of_ble_eq_true rfl) rfl (fun r h1 hq1 => ?_)
  obtain ⟨rfl, v1, hm1, rfl⟩ := hq1
  refine J_icmp_eq (tgt := 1450) (n := 1359) dL_law_1356 (by decide) rfl (fun c_1356 => ?_) (fun c_1356 => ?_)
  · exact k1450 _ ((sp_lay S (gx_xs G (i + 1)) (gx_xs G (i + 2)) (gx_xs G (i + 3))).2) (ok_lay hS (gx_xs G (i + 1)) (gx_xs G (i + 2)) (gx_xs G (i + 3))) hc1.model (by rw [gs_same]; exact hm1)
  · exact absurd rfl c_1356
set_option maxHeartbeats 4000000 in
set_option maxRecDepth 100000 in
theorem jl_read {G : gx_G} {σ : gs_S} {Q : Option Value → gx_Hp → Prop} {S : pS} (d : Nat) {i : Nat} (hi : i + 5 ≤ G.2.2.2.2 7) (hL : G.2.2.2.2 7 ≤ 320) (hS : SOk S) (hc : cR σ S) (hm : mR (σ 7 0) S) (k1450 : ∀ τ S1, SOk S1 → cR τ S1 → mR (τ 7 0) S1 → gx_J G mL_law (d + 20) 0 0 Q 1450 [(0, .ref (G.2.2.2.1 7)), (1, .ref (gs_a G 6 0 0)), (2, .ref (gs_a G 7 0 0)), (3, .int (nI i))] [] (hp G τ)) : gx_J G mL_law (d + 20) 0 0 Q 1361 [(0, .ref (G.2.2.2.1 7)), (1, .ref (gs_a G 6 0 0)), (2, .ref (gs_a G 7 0 0)), (3, .int (nI i))] [] (hp G σ) := by
  refine J_aload_n (i := 1) (n := 1362) dL_law_1361 rfl rfl rfl ?_
  refine J_aload_n (i := 0) (n := 1363) dL_law_1362 rfl rfl rfl ?_
  refine J_iload_n (i := 3) (n := 1364) dL_law_1363 rfl rfl rfl ?_
  refine J_iconst (n := 1365) dL_law_1364 kI_1 rfl ?_
  refine J_iadd (n := 1366) dL_law_1365 rfl ?_
  try rw [nI_add]
  refine J_sld (n := 1367) dL_law_1366 (vp_in_nI (by omega) (by omega)) rfl ?_
  rw [nI_clamp (by omega)]
  refine J_aload_n (i := 0) (n := 1368) dL_law_1367 rfl rfl rfl ?_
  refine J_iload_n (i := 3) (n := 1369) dL_law_1368 rfl rfl rfl ?_
  refine J_iconst (n := 1370) dL_law_1369 kI_2 rfl ?_
  refine J_iadd (n := 1371) dL_law_1370 rfl ?_
  try rw [nI_add]
  refine J_sld (n := 1372) dL_law_1371 (vp_in_nI (by omega) (by omega)) rfl ?_
  rw [nI_clamp (by omega)]
  refine J_aload_n (i := 0) (n := 1373) dL_law_1372 rfl rfl rfl ?_
  refine J_iload_n (i := 3) (n := 1374) dL_law_1373 rfl rfl rfl ?_
  refine J_iconst (n := 1375) dL_law_1374 kI_3 rfl ?_
  refine J_iadd (n := 1376) dL_law_1375 rfl ?_
  try rw [nI_add]
  refine J_sld (n := 1377) dL_law_1376 (vp_in_nI (by omega) (by omega)) rfl ?_
  rw [nI_clamp (by omega)]
  refine J_aload_n (i := 0) (n := 1378) dL_law_1377 rfl rfl rfl ?_
  refine J_iload_n (i := 3) (n := 1379) dL_law_1378 rfl rfl rfl ?_
  refine J_iconst (n := 1380) dL_law_1379 kI_4 rfl ?_
  refine J_iadd (n := 1381) dL_law_1380 rfl ?_
  try rw [nI_add]
  refine J_sld (n := 1382) dL_law_1381 (vp_in_nI (by omega) (by omega)) rfl ?_
  rw [nI_clamp (by omega)]
  refine J_callVx (n := 1385) wS_X6_read (c_G_read (Q := fun r h => r = some (.int ((sp_read S (gx_xs G (i + 1)) (gx_xs G (i + 2)) (gx_xs G (i + 3)) (gx_xs G (i + 4))).1)) ∧ ∃ τ, cR τ ((sp_read S (gx_xs G (i + 1)) (gx_xs G (i + 2)) (gx_xs G (i + 3)) (gx_xs G (i + 4))).2) ∧ τ 7 0 = σ 7 0 ∧ h = hp G τ) (d + 7) (gx_xs G (i + 1)) (gx_xs G (i + 2)) (gx_xs G (i + 3)) (gx_xs G (i + 4)) hS hc (fun τ h1 h2 => ⟨rfl, τ, h1, h2, rfl⟩)) dL_law_1382 wm_L_167 ⟨wM_X6_read, wV_X6_read⟩ rfl (T_recv (by decide) (by decide)) rfl rfl (Nat.le_of_ble_eq_true rfl) rfl (fun r h1 hq1 => ?_)
  obtain ⟨rfl, τ, hc1, h7, rfl⟩ := hq1
  refine J_aload_n (i := 2) (n := 1386) dL_law_1385 rfl rfl rfl ?_
  refine J_aload_n (i := 0) (n := 1387) dL_law_1386 rfl rfl rfl ?_
  refine J_iload_n (i := 3) (n := 1388) dL_law_1387 rfl rfl rfl ?_
  refine J_iconst (n := 1389) dL_law_1388 kI_1 rfl ?_
  refine J_iadd (n := 1390) dL_law_1389 rfl ?_
  try rw [nI_add]
  refine J_sld (n := 1391) dL_law_1390 (vp_in_nI (by omega) (by omega)) rfl ?_
  rw [nI_clamp (by omega)]
  refine J_aload_n (i := 0) (n := 1392) dL_law_1391 rfl rfl rfl ?_
  refine J_iload_n (i := 3) (n := 1393) dL_law_1392 rfl rfl rfl ?_
  refine J_iconst (n := 1394) dL_law_1393 kI_2 rfl ?_
  refine J_iadd (n := 1395) dL_law_1394 rfl ?_
  try rw [nI_add]
  refine J_sld (n := 1396) dL_law_1395 (vp_in_nI (by omega) (by omega)) rfl ?_
  rw [nI_clamp (by omega)]
  refine J_aload_n (i := 0) (n := 1397) dL_law_1396 rfl rfl rfl ?_
  refine J_iload_n (i := 3) (n := 1398) dL_law_1397 rfl rfl rfl ?_
  refine J_iconst (n := 1399) dL_law_1398 kI_3 rfl ?_
  refine J_iadd (n := 1400) dL_law_1399 rfl ?_
  try rw [nI_add]
  refine J_sld (n := 1401) dL_law_1400 (vp_in_nI (by omega) (by omega)) rfl ?_
  rw [nI_clamp (by omega)]
  refine J_aload_n (i := 0) (n := 1402) dL_law_1401 rfl rfl rfl ?_
  refine J_iload_n (i := 3) (n := 1403) dL_law_1402 rfl rfl rfl ?_
  refine J_iconst (n := 1404) dL_law_1403 kI_4 rfl ?_
  refine J_iadd (n := 1405) dL_law_1404 rfl ?_
  try rw [nI_add]
  refine J_sld (n := 1406) dL_law_1405 (vp_in_nI (by omega) (by omega)) rfl ?_
  rw [nI_clamp (by omega)]
  refine J_callVx (n := 1409) wS_X7_read (K_eta 7 0 (c_N_read (Q := fun r h => r = some (.int ((sp_read S (gx_xs G (i + 1)) (gx_xs G (i + 2)) (gx_xs G (i + 3)) (gx_xs G (i + 4))).1)) ∧ ∃ v1, mR v1 ((sp_read S (gx_xs G (i + 1)) (gx_xs G (i + 2)) (gx_xs G (i + 3)) (gx_xs G (i + 4))).2) ∧ h = hp G (gs_set τ 7 0 v1)) (d + 5) (gx_xs G (i + 1)) (gx_xs G (i + 2)) (gx_xs G (i + 3)) (gx_xs G (i + 4)) hS (show mR (τ 7 0) S by rw [h7]; exact hm) (fun v1 h1 => ⟨rfl, v1, h1, rfl⟩))) dL_law_1406 wm_L_171 ⟨wM_X7_read, wV_X7_read⟩ rfl (T_recv (by decide) (by decide)) rfl rfl (Nat.le_of_ble_eq_true rfl) rfl (fun r h1 hq1 => ?_)
  obtain ⟨rfl, v1, hm1, rfl⟩ := hq1
  refine J_icmp_eq (tgt := 1450) (n := 1412) dL_law_1409 (by decide) rfl (fun c_1409 => ?_) (fun c_1409 => ?_)
  · exact k1450 _ ((sp_read S (gx_xs G (i + 1)) (gx_xs G (i + 2)) (gx_xs G (i + 3)) (gx_xs G (i + 4))).2) (ok_read hS (gx_xs G (i + 1)) (gx_xs G (i + 2)) (gx_xs G (i + 3)) (gx_xs G (i + 4))) hc1.model (by rw [gs_same]; exact hm1)
  · exact absurd rfl c_1409
set_option maxHeartbeats 4000000 in
set_option maxRecDepth 100000 in
theorem jl_torn {G : gx_G} {σ : gs_S} {Q : Option Value → gx_Hp → Prop} {S : pS} (d : Nat) {i : Nat} (hi : i + 5 ≤ G.2.2.2.2 7) (hL : G.2.2.2.2 7 ≤ 320) (hS : SOk S) (hc : cR σ S) (hm : mR (σ 7 0) S) (k1450 : ∀ τ S1, SOk S1 → cR τ S1 → mR (τ 7 0) S1 → gx_J G mL_law (d + 20) 0 0 Q 1450 [(0, .ref (G.2.2.2.1 7)), (1, .ref (gs_a G 6 0 0)), (2, .ref (gs_a G 7 0 0)), (3, .int (nI i))] [] (hp G τ)) : gx_J G mL_law (d + 20) 0 0 Q 1414 [(0, .ref (G.2.2.2.1 7)), (1, .ref (gs_a G 6 0 0)), (2, .ref (gs_a G 7 0 0)), (3, .int (nI i))] [] (hp G σ) := by
  refine J_aload_n (i := 1) (n := 1415) dL_law_1414 rfl rfl rfl ?_
  refine J_callVx (n := 1418) wS_X6_torn (c_G_torn (Q := fun r h => r = some (.int (nI (S.2.2.2.2.1 1))) ∧ ∃ τ, cR τ (S) ∧ τ 7 0 = σ 7 0 ∧ h = hp G τ) (d + 7)  hS hc (fun τ h1 h2 => ⟨rfl, τ, h1, h2, rfl⟩)) dL_law_1415 wm_L_172 ⟨wM_X6_torn, wV_X6_torn⟩ rfl (T_recv (by decide) (by decide)) rfl rfl (Nat.le_of_ble_eq_true rfl) rfl (fun r h1 hq1 => ?_)
  obtain ⟨rfl, τ, hc1, h7, rfl⟩ := hq1
  refine J_aload_n (i := 2) (n := 1419) dL_law_1418 rfl rfl rfl ?_
  refine J_callVx (n := 1422) wS_X7_torn (K_eta 7 0 (c_N_torn (Q := fun r h => r = some (.int (nI (S.2.2.2.2.1 1))) ∧ ∃ v1, mR v1 (S) ∧ h = hp G (gs_set τ 7 0 v1)) (d + 7)  hS (show mR (τ 7 0) S by rw [h7]; exact hm) (fun v1 h1 => ⟨rfl, v1, h1, rfl⟩))) dL_law_1419 wm_L_175 ⟨wM_X7_torn, wV_X7_torn⟩ rfl (T_recv (by decide) (by decide)) rfl rfl (Nat.le_of_ble_eq_true rfl) rfl (fun r h1 hq1 => ?_)
  obtain ⟨rfl, v1, hm1, rfl⟩ := hq1
  refine J_icmp_eq (tgt := 1450) (n := 1425) dL_law_1422 (by decide) rfl (fun c_1422 => ?_) (fun c_1422 => ?_)
  · exact k1450 _ (S) hS hc1.model (by rw [gs_same]; exact hm1)
  · exact absurd rfl c_1422
set_option maxHeartbeats 4000000 in
set_option maxRecDepth 100000 in
theorem jl_count {G : gx_G} {σ : gs_S} {Q : Option Value → gx_Hp → Prop} {S : pS} (d : Nat) {i : Nat} (hi : i + 5 ≤ G.2.2.2.2 7) (hL : G.2.2.2.2 7 ≤ 320) (hS : SOk S) (hc : cR σ S) (hm : mR (σ 7 0) S) (k1450 : ∀ τ S1, SOk S1 → cR τ S1 → mR (τ 7 0) S1 → gx_J G mL_law (d + 20) 0 0 Q 1450 [(0, .ref (G.2.2.2.1 7)), (1, .ref (gs_a G 6 0 0)), (2, .ref (gs_a G 7 0 0)), (3, .int (nI i))] [] (hp G τ)) : gx_J G mL_law (d + 20) 0 0 Q 1427 [(0, .ref (G.2.2.2.1 7)), (1, .ref (gs_a G 6 0 0)), (2, .ref (gs_a G 7 0 0)), (3, .int (nI i))] [] (hp G σ) := by
  refine J_aload_n (i := 1) (n := 1428) dL_law_1427 rfl rfl rfl ?_
  refine J_aload_n (i := 0) (n := 1429) dL_law_1428 rfl rfl rfl ?_
  refine J_iload_n (i := 3) (n := 1430) dL_law_1429 rfl rfl rfl ?_
  refine J_iconst (n := 1431) dL_law_1430 kI_1 rfl ?_
  refine J_iadd (n := 1432) dL_law_1431 rfl ?_
  try rw [nI_add]
  refine J_sld (n := 1433) dL_law_1432 (vp_in_nI (by omega) (by omega)) rfl ?_
  rw [nI_clamp (by omega)]
  refine J_callVx (n := 1436) wS_X6_count (c_G_count (Q := fun r h => r = some (.int (sp_count S (gx_xs G (i + 1)))) ∧ ∃ τ, cR τ (S) ∧ τ 7 0 = σ 7 0 ∧ h = hp G τ) (d + 7) (gx_xs G (i + 1)) hS hc (fun τ h1 h2 => ⟨rfl, τ, h1, h2, rfl⟩)) dL_law_1433 wm_L_176 ⟨wM_X6_count, wV_X6_count⟩ rfl (T_recv (by decide) (by decide)) rfl rfl (Nat.le_of_ble_eq_true rfl) rfl (fun r h1 hq1 => ?_)
  obtain ⟨rfl, τ, hc1, h7, rfl⟩ := hq1
  refine J_aload_n (i := 2) (n := 1437) dL_law_1436 rfl rfl rfl ?_
  refine J_aload_n (i := 0) (n := 1438) dL_law_1437 rfl rfl rfl ?_
  refine J_iload_n (i := 3) (n := 1439) dL_law_1438 rfl rfl rfl ?_
  refine J_iconst (n := 1440) dL_law_1439 kI_1 rfl ?_
  refine J_iadd (n := 1441) dL_law_1440 rfl ?_
  try rw [nI_add]
  refine J_sld (n := 1442) dL_law_1441 (vp_in_nI (by omega) (by omega)) rfl ?_
  rw [nI_clamp (by omega)]
  refine J_callVx (n := 1445) wS_X7_count (K_eta 7 0 (c_N_count (Q := fun r h => r = some (.int (sp_count S (gx_xs G (i + 1)))) ∧ ∃ v1, mR v1 (S) ∧ h = hp G (gs_set τ 7 0 v1)) (d + 7) (gx_xs G (i + 1)) hS (show mR (τ 7 0) S by rw [h7]; exact hm) (fun v1 h1 => ⟨rfl, v1, h1, rfl⟩))) dL_law_1442 wm_L_179 ⟨wM_X7_count, wV_X7_count⟩ rfl (T_recv (by decide) (by decide)) rfl rfl (Nat.le_of_ble_eq_true rfl) rfl (fun r h1 hq1 => ?_)
  obtain ⟨rfl, v1, hm1, rfl⟩ := hq1
  refine J_icmp_eq (tgt := 1450) (n := 1448) dL_law_1445 (by decide) rfl (fun c_1445 => ?_) (fun c_1445 => ?_)
  · exact k1450 _ (S) hS hc1.model (by rw [gs_same]; exact hm1)
  · exact absurd rfl c_1445
set_option maxHeartbeats 4000000 in
set_option maxRecDepth 100000 in
theorem j_law {G : gx_G} {Q : Option Value → gx_Hp → Prop} (d : Nat) (hL : G.2.2.2.2 7 ≤ 320) (hq : ∀ h, Q (some (.int (nI 1))) h) : ∀ u i σ S, G.2.2.2.2 7 - i < u → i ≤ G.2.2.2.2 7 + 5 → SOk S → cR σ S → mR (σ 7 0) S → gx_J G mL_law (d + 20) 0 0 Q 18 [(0, .ref (G.2.2.2.1 7)), (1, .ref (gs_a G 6 0 0)), (2, .ref (gs_a G 7 0 0)), (3, .int (nI i))] [] (hp G σ) := by
  intro u
  induction u with
  | zero => intros; exact absurd (by assumption) (Nat.not_lt_zero _)
  | succ u ih =>
    intro i σ S hu hiL hS hc hm
    have hnx : ¬ nI (G.2.2.2.2 7) - nI 5 < nI i → i + 5 ≤ G.2.2.2.2 7 := fun hn => by
      by_cases h5 : G.2.2.2.2 7 < 5
      · exact absurd (Int32.lt_of_lt_of_le (sub5 _ h5) (nI_pos' (by omega))) hn
      · rw [pk_sub (by omega), nI_ltI (by omega) (by omega)] at hn
        omega
    have k1450 : i + 5 ≤ G.2.2.2.2 7 → ∀ τ S1, SOk S1 → cR τ S1 → mR (τ 7 0) S1 → gx_J G mL_law (d + 20) 0 0 Q 1450 [(0, .ref (G.2.2.2.1 7)), (1, .ref (gs_a G 6 0 0)), (2, .ref (gs_a G 7 0 0)), (3, .int (nI i))] [] (hp G τ) := fun hi2 τ S1 h1 h2 h3 => by
      refine J_iinc (i := 3) (n := 1453) (lv' := [(0, _), (1, _), (2, _), (3, _)]) dL_law_1450 rfl rfl (by decide) rfl rfl ?_
      refine J_goto (tgt := 18) dL_law_1453 (by decide) ?_
      rw [show nI i + Int32.ofInt 5 = nI (i + 5) from nI_add i 5]
      exact ih (i + 5) τ S1 (by omega) (by omega) h1 h2 h3
    refine J_iload_n (i := 3) (n := 19) dL_law_18 rfl rfl rfl ?_
    refine J_aload_n (i := 0) (n := 20) dL_law_19 rfl rfl rfl ?_
    refine J_slen (n := 21) dL_law_20 rfl ?_
    refine J_iconst (n := 22) dL_law_21 kI_5 rfl ?_
    refine J_isub (n := 23) dL_law_22 rfl ?_
    refine J_icmp_gt (tgt := 1456) (n := 26) dL_law_23 (by decide) rfl (fun c_23 => ?_) (fun c_23 => ?_)
    · refine J_iconst (n := 1457) dL_law_1456 kI_1 rfl ?_
      refine J_iret dL_law_1457 rfl kN_1 ?_
      exact hq _
    · have hi2 := hnx c_23
      have k1450 := k1450 hi2
      refine J_aload_n (i := 0) (n := 27) dL_law_26 rfl rfl rfl ?_
      refine J_iload_n (i := 3) (n := 28) dL_law_27 rfl rfl rfl ?_
      try rw [nI_add]
      refine J_sld (n := 29) dL_law_28 (vp_in_nI (by omega) (by omega)) rfl ?_
      rw [nI_clamp (by omega)]
      refine J_bipush (n := 31) dL_law_29 kB_63 rfl ?_
      refine J_iand (n := 32) dL_law_31 rfl ?_
      by_cases e_32_0 : (gx_xs G i &&& nI 63) = 0
      · rw [e_32_0]
        refine J_tableIn (off := 176) (tgt := 208) dL_law_32 (by decide) (by decide) (by decide) (by decide) ?_
        exact jl_feed d hi2 hL hS hc hm (fun τ S1 h1 h2 h3 => k1450 τ S1 h1 h2 h3)
      by_cases e_32_1 : (gx_xs G i &&& nI 63) = 1
      · rw [e_32_1]
        refine J_tableIn (off := 199) (tgt := 231) dL_law_32 (by decide) (by decide) (by decide) (by decide) ?_
        exact jl_end d hi2 hL hS hc hm (fun τ S1 h1 h2 h3 => k1450 τ S1 h1 h2 h3)
      by_cases e_32_2 : (gx_xs G i &&& nI 63) = 2
      · rw [e_32_2]
        refine J_tableIn (off := 222) (tgt := 254) dL_law_32 (by decide) (by decide) (by decide) (by decide) ?_
        exact jl_text d hi2 hL hS hc hm (fun τ S1 h1 h2 h3 => k1450 τ S1 h1 h2 h3)
      by_cases e_32_3 : (gx_xs G i &&& nI 63) = 3
      · rw [e_32_3]
        refine J_tableIn (off := 235) (tgt := 267) dL_law_32 (by decide) (by decide) (by decide) (by decide) ?_
        exact jl_fault d hi2 hL hS hc hm (fun τ S1 h1 h2 h3 => k1450 τ S1 h1 h2 h3)
      by_cases e_32_4 : (gx_xs G i &&& nI 63) = 4
      · rw [e_32_4]
        refine J_tableIn (off := 248) (tgt := 280) dL_law_32 (by decide) (by decide) (by decide) (by decide) ?_
        exact jl_rule d hi2 hL hS hc hm (fun τ S1 h1 h2 h3 => k1450 τ S1 h1 h2 h3)
      by_cases e_32_5 : (gx_xs G i &&& nI 63) = 5
      · rw [e_32_5]
        refine J_tableIn (off := 271) (tgt := 303) dL_law_32 (by decide) (by decide) (by decide) (by decide) ?_
        exact jl_glove d hi2 hL hS hc hm (fun τ S1 h1 h2 h3 => k1450 τ S1 h1 h2 h3)
      by_cases e_32_6 : (gx_xs G i &&& nI 63) = 6
      · rw [e_32_6]
        refine J_tableIn (off := 304) (tgt := 336) dL_law_32 (by decide) (by decide) (by decide) (by decide) ?_
        exact jl_door d hi2 hL hS hc hm (fun τ S1 h1 h2 h3 => k1450 τ S1 h1 h2 h3)
      by_cases e_32_7 : (gx_xs G i &&& nI 63) = 7
      · rw [e_32_7]
        refine J_tableIn (off := 337) (tgt := 369) dL_law_32 (by decide) (by decide) (by decide) (by decide) ?_
        exact jl_stop d hi2 hL hS hc hm (fun τ S1 h1 h2 h3 => k1450 τ S1 h1 h2 h3)
      by_cases e_32_8 : (gx_xs G i &&& nI 63) = 8
      · rw [e_32_8]
        refine J_tableIn (off := 360) (tgt := 392) dL_law_32 (by decide) (by decide) (by decide) (by decide) ?_
        exact jl_alter d hi2 hL hS hc hm (fun τ S1 h1 h2 h3 => k1450 τ S1 h1 h2 h3)
      by_cases e_32_9 : (gx_xs G i &&& nI 63) = 9
      · rw [e_32_9]
        refine J_tableIn (off := 403) (tgt := 435) dL_law_32 (by decide) (by decide) (by decide) (by decide) ?_
        exact jl_fame d hi2 hL hS hc hm (fun τ S1 h1 h2 h3 => k1450 τ S1 h1 h2 h3)
      by_cases e_32_10 : (gx_xs G i &&& nI 63) = 10
      · rw [e_32_10]
        refine J_tableIn (off := 436) (tgt := 468) dL_law_32 (by decide) (by decide) (by decide) (by decide) ?_
        exact jl_leave d hi2 hL hS hc hm (fun τ S1 h1 h2 h3 => k1450 τ S1 h1 h2 h3)
      by_cases e_32_11 : (gx_xs G i &&& nI 63) = 11
      · rw [e_32_11]
        refine J_tableIn (off := 459) (tgt := 491) dL_law_32 (by decide) (by decide) (by decide) (by decide) ?_
        exact jl_go d hi2 hL hS hc hm (fun τ S1 h1 h2 h3 => k1450 τ S1 h1 h2 h3)
      by_cases e_32_12 : (gx_xs G i &&& nI 63) = 12
      · rw [e_32_12]
        refine J_tableIn (off := 482) (tgt := 514) dL_law_32 (by decide) (by decide) (by decide) (by decide) ?_
        exact jl_call d hi2 hL hS hc hm (fun τ S1 h1 h2 h3 => k1450 τ S1 h1 h2 h3)
      by_cases e_32_13 : (gx_xs G i &&& nI 63) = 13
      · rw [e_32_13]
        refine J_tableIn (off := 505) (tgt := 537) dL_law_32 (by decide) (by decide) (by decide) (by decide) ?_
        exact jl_cut d hi2 hL hS hc hm (fun τ S1 h1 h2 h3 => k1450 τ S1 h1 h2 h3)
      by_cases e_32_14 : (gx_xs G i &&& nI 63) = 14
      · rw [e_32_14]
        refine J_tableIn (off := 528) (tgt := 560) dL_law_32 (by decide) (by decide) (by decide) (by decide) ?_
        exact jl_days d hi2 hL hS hc hm (fun τ S1 h1 h2 h3 => k1450 τ S1 h1 h2 h3)
      by_cases e_32_15 : (gx_xs G i &&& nI 63) = 15
      · rw [e_32_15]
        refine J_tableIn (off := 551) (tgt := 583) dL_law_32 (by decide) (by decide) (by decide) (by decide) ?_
        exact jl_runs d hi2 hL hS hc hm (fun τ S1 h1 h2 h3 => k1450 τ S1 h1 h2 h3)
      by_cases e_32_16 : (gx_xs G i &&& nI 63) = 16
      · rw [e_32_16]
        refine J_tableIn (off := 584) (tgt := 616) dL_law_32 (by decide) (by decide) (by decide) (by decide) ?_
        exact jl_ahead d hi2 hL hS hc hm (fun τ S1 h1 h2 h3 => k1450 τ S1 h1 h2 h3)
      by_cases e_32_17 : (gx_xs G i &&& nI 63) = 17
      · rw [e_32_17]
        refine J_tableIn (off := 627) (tgt := 659) dL_law_32 (by decide) (by decide) (by decide) (by decide) ?_
        exact jl_meets d hi2 hL hS hc hm (fun τ S1 h1 h2 h3 => k1450 τ S1 h1 h2 h3)
      by_cases e_32_18 : (gx_xs G i &&& nI 63) = 18
      · rw [e_32_18]
        refine J_tableIn (off := 650) (tgt := 682) dL_law_32 (by decide) (by decide) (by decide) (by decide) ?_
        exact jl_place d hi2 hL hS hc hm (fun τ S1 h1 h2 h3 => k1450 τ S1 h1 h2 h3)
      by_cases e_32_19 : (gx_xs G i &&& nI 63) = 19
      · rw [e_32_19]
        refine J_tableIn (off := 693) (tgt := 725) dL_law_32 (by decide) (by decide) (by decide) (by decide) ?_
        exact jl_extra d hi2 hL hS hc hm (fun τ S1 h1 h2 h3 => k1450 τ S1 h1 h2 h3)
      by_cases e_32_20 : (gx_xs G i &&& nI 63) = 20
      · rw [e_32_20]
        refine J_tableIn (off := 726) (tgt := 758) dL_law_32 (by decide) (by decide) (by decide) (by decide) ?_
        exact jl_swap d hi2 hL hS hc hm (fun τ S1 h1 h2 h3 => k1450 τ S1 h1 h2 h3)
      by_cases e_32_21 : (gx_xs G i &&& nI 63) = 21
      · rw [e_32_21]
        refine J_tableIn (off := 759) (tgt := 791) dL_law_32 (by decide) (by decide) (by decide) (by decide) ?_
        exact jl_shun d hi2 hL hS hc hm (fun τ S1 h1 h2 h3 => k1450 τ S1 h1 h2 h3)
      by_cases e_32_22 : (gx_xs G i &&& nI 63) = 22
      · rw [e_32_22]
        refine J_tableIn (off := 792) (tgt := 824) dL_law_32 (by decide) (by decide) (by decide) (by decide) ?_
        exact jl_need d hi2 hL hS hc hm (fun τ S1 h1 h2 h3 => k1450 τ S1 h1 h2 h3)
      by_cases e_32_23 : (gx_xs G i &&& nI 63) = 23
      · rw [e_32_23]
        refine J_tableIn (off := 825) (tgt := 857) dL_law_32 (by decide) (by decide) (by decide) (by decide) ?_
        exact jl_kind d hi2 hL hS hc hm (fun τ S1 h1 h2 h3 => k1450 τ S1 h1 h2 h3)
      by_cases e_32_24 : (gx_xs G i &&& nI 63) = 24
      · rw [e_32_24]
        refine J_tableIn (off := 868) (tgt := 900) dL_law_32 (by decide) (by decide) (by decide) (by decide) ?_
        exact jl_drop d hi2 hL hS hc hm (fun τ S1 h1 h2 h3 => k1450 τ S1 h1 h2 h3)
      by_cases e_32_25 : (gx_xs G i &&& nI 63) = 25
      · rw [e_32_25]
        refine J_tableIn (off := 911) (tgt := 943) dL_law_32 (by decide) (by decide) (by decide) (by decide) ?_
        exact jl_luck d hi2 hL hS hc hm (fun τ S1 h1 h2 h3 => k1450 τ S1 h1 h2 h3)
      by_cases e_32_26 : (gx_xs G i &&& nI 63) = 26
      · rw [e_32_26]
        refine J_tableIn (off := 965) (tgt := 997) dL_law_32 (by decide) (by decide) (by decide) (by decide) ?_
        exact jl_mean d hi2 hL hS hc hm (fun τ S1 h1 h2 h3 => k1450 τ S1 h1 h2 h3)
      by_cases e_32_27 : (gx_xs G i &&& nI 63) = 27
      · rw [e_32_27]
        refine J_tableIn (off := 1009) (tgt := 1041) dL_law_32 (by decide) (by decide) (by decide) (by decide) ?_
        exact jl_see d hi2 hL hS hc hm (fun τ S1 h1 h2 h3 => k1450 τ S1 h1 h2 h3)
      by_cases e_32_28 : (gx_xs G i &&& nI 63) = 28
      · rw [e_32_28]
        refine J_tableIn (off := 1052) (tgt := 1084) dL_law_32 (by decide) (by decide) (by decide) (by decide) ?_
        exact jl_forget d hi2 hL hS hc hm (fun τ S1 h1 h2 h3 => k1450 τ S1 h1 h2 h3)
      by_cases e_32_29 : (gx_xs G i &&& nI 63) = 29
      · rw [e_32_29]
        refine J_tableIn (off := 1075) (tgt := 1107) dL_law_32 (by decide) (by decide) (by decide) (by decide) ?_
        exact jl_kinds d hi2 hL hS hc hm (fun τ S1 h1 h2 h3 => k1450 τ S1 h1 h2 h3)
      by_cases e_32_30 : (gx_xs G i &&& nI 63) = 30
      · rw [e_32_30]
        refine J_tableIn (off := 1098) (tgt := 1130) dL_law_32 (by decide) (by decide) (by decide) (by decide) ?_
        exact jl_doors d hi2 hL hS hc hm (fun τ S1 h1 h2 h3 => k1450 τ S1 h1 h2 h3)
      by_cases e_32_31 : (gx_xs G i &&& nI 63) = 31
      · rw [e_32_31]
        refine J_tableIn (off := 1121) (tgt := 1153) dL_law_32 (by decide) (by decide) (by decide) (by decide) ?_
        exact jl_ask d hi2 hL hS hc hm (fun τ S1 h1 h2 h3 => k1450 τ S1 h1 h2 h3)
      by_cases e_32_32 : (gx_xs G i &&& nI 63) = 32
      · rw [e_32_32]
        refine J_tableIn (off := 1154) (tgt := 1186) dL_law_32 (by decide) (by decide) (by decide) (by decide) ?_
        exact jl_drift d hi2 hL hS hc hm (fun τ S1 h1 h2 h3 => k1450 τ S1 h1 h2 h3)
      by_cases e_32_33 : (gx_xs G i &&& nI 63) = 33
      · rw [e_32_33]
        refine J_tableIn (off := 1197) (tgt := 1229) dL_law_32 (by decide) (by decide) (by decide) (by decide) ?_
        exact jl_keep d hi2 hL hS hc hm (fun τ S1 h1 h2 h3 => k1450 τ S1 h1 h2 h3)
      by_cases e_32_34 : (gx_xs G i &&& nI 63) = 34
      · rw [e_32_34]
        refine J_tableIn (off := 1220) (tgt := 1252) dL_law_32 (by decide) (by decide) (by decide) (by decide) ?_
        exact jl_back d hi2 hL hS hc hm (fun τ S1 h1 h2 h3 => k1450 τ S1 h1 h2 h3)
      by_cases e_32_35 : (gx_xs G i &&& nI 63) = 35
      · rw [e_32_35]
        refine J_tableIn (off := 1243) (tgt := 1275) dL_law_32 (by decide) (by decide) (by decide) (by decide) ?_
        exact jl_sheet d hi2 hL hS hc hm (fun τ S1 h1 h2 h3 => k1450 τ S1 h1 h2 h3)
      by_cases e_32_36 : (gx_xs G i &&& nI 63) = 36
      · rw [e_32_36]
        refine J_tableIn (off := 1286) (tgt := 1318) dL_law_32 (by decide) (by decide) (by decide) (by decide) ?_
        exact jl_lay d hi2 hL hS hc hm (fun τ S1 h1 h2 h3 => k1450 τ S1 h1 h2 h3)
      by_cases e_32_37 : (gx_xs G i &&& nI 63) = 37
      · rw [e_32_37]
        refine J_tableIn (off := 1329) (tgt := 1361) dL_law_32 (by decide) (by decide) (by decide) (by decide) ?_
        exact jl_read d hi2 hL hS hc hm (fun τ S1 h1 h2 h3 => k1450 τ S1 h1 h2 h3)
      by_cases e_32_38 : (gx_xs G i &&& nI 63) = 38
      · rw [e_32_38]
        refine J_tableIn (off := 1382) (tgt := 1414) dL_law_32 (by decide) (by decide) (by decide) (by decide) ?_
        exact jl_torn d hi2 hL hS hc hm (fun τ S1 h1 h2 h3 => k1450 τ S1 h1 h2 h3)
      by_cases e_32_39 : (gx_xs G i &&& nI 63) = 39
      · rw [e_32_39]
        refine J_tableIn (off := 1395) (tgt := 1427) dL_law_32 (by decide) (by decide) (by decide) (by decide) ?_
        exact jl_count d hi2 hL hS hc hm (fun τ S1 h1 h2 h3 => k1450 τ S1 h1 h2 h3)
      refine J_tableOut (tgt := 1450) dL_law_32 (by have q_0 := lv_neT (a := 0) e_32_0 rfl; have q_1 := lv_neT (a := 1) e_32_1 rfl; have q_2 := lv_neT (a := 2) e_32_2 rfl; have q_3 := lv_neT (a := 3) e_32_3 rfl; have q_4 := lv_neT (a := 4) e_32_4 rfl; have q_5 := lv_neT (a := 5) e_32_5 rfl; have q_6 := lv_neT (a := 6) e_32_6 rfl; have q_7 := lv_neT (a := 7) e_32_7 rfl; have q_8 := lv_neT (a := 8) e_32_8 rfl; have q_9 := lv_neT (a := 9) e_32_9 rfl; have q_10 := lv_neT (a := 10) e_32_10 rfl; have q_11 := lv_neT (a := 11) e_32_11 rfl; have q_12 := lv_neT (a := 12) e_32_12 rfl; have q_13 := lv_neT (a := 13) e_32_13 rfl; have q_14 := lv_neT (a := 14) e_32_14 rfl; have q_15 := lv_neT (a := 15) e_32_15 rfl; have q_16 := lv_neT (a := 16) e_32_16 rfl; have q_17 := lv_neT (a := 17) e_32_17 rfl; have q_18 := lv_neT (a := 18) e_32_18 rfl; have q_19 := lv_neT (a := 19) e_32_19 rfl; have q_20 := lv_neT (a := 20) e_32_20 rfl; have q_21 := lv_neT (a := 21) e_32_21 rfl; have q_22 := lv_neT (a := 22) e_32_22 rfl; have q_23 := lv_neT (a := 23) e_32_23 rfl; have q_24 := lv_neT (a := 24) e_32_24 rfl; have q_25 := lv_neT (a := 25) e_32_25 rfl; have q_26 := lv_neT (a := 26) e_32_26 rfl; have q_27 := lv_neT (a := 27) e_32_27 rfl; have q_28 := lv_neT (a := 28) e_32_28 rfl; have q_29 := lv_neT (a := 29) e_32_29 rfl; have q_30 := lv_neT (a := 30) e_32_30 rfl; have q_31 := lv_neT (a := 31) e_32_31 rfl; have q_32 := lv_neT (a := 32) e_32_32 rfl; have q_33 := lv_neT (a := 33) e_32_33 rfl; have q_34 := lv_neT (a := 34) e_32_34 rfl; have q_35 := lv_neT (a := 35) e_32_35 rfl; have q_36 := lv_neT (a := 36) e_32_36 rfl; have q_37 := lv_neT (a := 37) e_32_37 rfl; have q_38 := lv_neT (a := 38) e_32_38 rfl; have q_39 := lv_neT (a := 39) e_32_39 rfl; omega) (by decide) ?_
      exact k1450 σ S hS hc hm
