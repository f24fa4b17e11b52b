/-! ===== the law from its entry ===== -/
set_option maxHeartbeats 4000000 in
set_option maxRecDepth 100000 in
theorem law_0 {G : gx_G} {Q : Option Value → gx_Hp → Prop} (d : Nat) (hLe : G.2.2.2.2 7 ≤ 320) (hq : ∀ h, Q (some (.int (nI 1))) h) : gx_J G mL_law (d + 20) 125 1884 Q 0 [(0, .ref (G.2.2.2.1 7))] [] (hL G []) := by
  refine J_newZ (l' := [.inr (6, z6)]) (fs := z6) (j := 0) (n := 3) wk_X6 dL_law_0 wc_L_7 wN_X6 wI_X6 (by decide) rfl rfl rfl ?_
  refine J_dup (n := 4) dL_law_3 rfl rfl ?_
  refine J_callI (kc := 12) (ks := 870) (mc := 112) (ms := 1005) (n := 7) (As := []) (b := gx_N G + 0) (Q1 := fun r h => r = none ∧ h = hL G (L6 G)) wS_X6_init (i_X6 (d + 16) ⟨rfl, rfl⟩) rfl dL_law_4 wm_L_9 wM_X6_init rfl rfl rfl (Nat.le_of_ble_eq_true rfl) rfl (fun r h1 hq1 => ?_)
  obtain ⟨rfl, rfl⟩ := hq1
  refine J_astore_n (i := 1) (n := 8) (lv' := [(0, .ref (G.2.2.2.1 7)), (1, .ref (gx_N G + 0))]) dL_law_7 rfl (by decide) rfl rfl ?_
  refine J_newZ (l' := L6 G ++ [.inr (7, z7)]) (fs := z7) (j := 113) (n := 11) wk_X7 dL_law_8 wc_L_10 wN_X7 wI_X7 (by decide) (L6_len G) rfl rfl ?_
  refine J_dup (n := 12) dL_law_11 rfl rfl ?_
  refine J_callI (kc := 0) (ks := 0) (mc := 11) (ms := 840) (n := 15) (As := []) (b := gx_N G + 113) (Q1 := fun r h => r = none ∧ ∃ v1, mR v1 S0 ∧ h = hp G (gs_set σ0 7 0 v1)) wS_X7_init (i_X7 (d + 18) (fun v1 h => ⟨rfl, v1, h, rfl⟩)) rfl dL_law_12 wm_L_12 wM_X7_init rfl rfl rfl (Nat.le_of_ble_eq_true rfl) rfl (fun r h1 hq1 => ?_)
  obtain ⟨rfl, v1, hm, rfl⟩ := hq1
  refine J_astore_n (i := 2) (n := 16) (lv' := [(0, .ref (G.2.2.2.1 7)), (1, .ref (gx_N G + 0)), (2, .ref (gx_N G + 113))]) dL_law_15 rfl (by decide) rfl rfl ?_
  refine J_iconst (n := 17) dL_law_16 kI_0 rfl ?_
  refine J_istore_n (i := 3) (n := 18) (lv' := [(0, .ref (G.2.2.2.1 7)), (1, .ref (gx_N G + 0)), (2, .ref (gx_N G + 113)), (3, .int (nI 0))]) dL_law_17 rfl (by decide) rfl rfl ?_
  have e6 : gs_a G 6 0 0 = gx_N G + 0 := by unfold gs_a; rw [ps_6_0_0]
  have e7 : gs_a G 7 0 0 = gx_N G + 113 := by unfold gs_a; rw [ps_7_0_0]
  have h := j_law (Q := Q) d hLe hq (G.2.2.2.2 7 + 1) 0 (gs_set σ0 7 0 v1) S0 (by omega) (by omega) S0_ok (cR_0 v1) (by rw [gs_same]; exact hm)
  rw [e6, e7] at h
  exact h
