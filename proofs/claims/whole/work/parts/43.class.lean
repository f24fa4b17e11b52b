set_option maxHeartbeats 4000000 in
set_option maxRecDepth 100000 in
theorem c_G_runs {G : gx_G} {σ : gs_S} {Q : Option Value → gx_Hp → Prop} {S : pS} (d : Nat) (x w : Int32) (hS : SOk S) (hc : cR σ S) (hq : ∀ τ, cR τ S → τ 7 0 = σ 7 0 → Q (some (.int (sp_runs S x w))) (hp G τ)) : gx_K G yX6_runs mX6_runs (d + 12) 0 0 [.ref (gs_a G 6 0 0), .int x, .int w] (hp G σ) Q := by
  obtain ⟨hw, hs⟩ := hc.1
  have hO := hS.1.1
  have h4 : S.1.1.2.2 6 ≤ 4 := hO.2.2.2.2.1
  have h6 : S.1.1.2.2 7 ≤ 6 := hO.2.2.2.2.2.1
  have hm11 : S.1.1.2.2 8 ≤ 11 := hO.2.2.2.2.2.2.1
  have hn9 : S.1.1.2.2 9 ≤ 9999 := hO.2.2.2.2.2.2.2
  have hd9 : S.1.1.2.2 10 ≤ 999 := hS.1.2.2.1
  have e6 := hw.2.2.2.2 6 (by decide) (by decide)
  have e7 := hw.2.2.2.2 7 (by decide) (by decide)
  have e8 := hw.2.2.2.2 8 (by decide) (by decide)
  have e9 := hw.2.2.2.2 9 (by decide) (by decide)
  have e10 := hw.2.2.2.2 10 (by decide) (by decide)
  refine gx_K.of' (lv := [(0, _), (1, _), (2, _)]) (by decide) rfl (by decide) (Nat.le_of_ble_eq_true rfl) rfl ?_
  refine J_iload_n (i := 1) (n := 1) dX6_runs_0 rfl rfl rfl ?_
  refine J_bipush (n := 3) dX6_runs_1 kB_60 rfl ?_
  refine J_callSr (n := 6) wS_X6_isWithin (c_isWithin (d + 11) x 60 ⟨rfl, rfl⟩) dX6_runs_3 wm_X6_51 wT_X6_isWithin rfl rfl (Nat.le_of_ble_eq_true rfl) rfl ?_
  refine J_if_eq (tgt := 17) (n := 9) dX6_runs_6 (by decide) rfl (fun c_6 => ?_) (fun c_6 => ?_)
  · refine J_iconst (n := 18) dX6_runs_17 kI_m1 rfl ?_
    refine J_iret dX6_runs_18 rfl (kN_i _) ?_
    unfold sp_runs at hq
    rw [if_neg (by first | (rw [nb_0] at c_6; rw [c_6, Bool.false_and]; decide) | (rw [nb_0] at c_14; rw [c_14, Bool.and_false]; decide))] at hq
    exact hq σ hc rfl
  · refine J_iload_n (i := 2) (n := 10) dX6_runs_9 rfl rfl rfl ?_
    refine J_iconst (n := 11) dX6_runs_10 kI_4 rfl ?_
    refine J_callSr (n := 14) wS_X6_isWithin (c_isWithin (d + 11) w 4 ⟨rfl, rfl⟩) dX6_runs_11 wm_X6_51 wT_X6_isWithin rfl rfl (Nat.le_of_ble_eq_true rfl) rfl ?_
    refine J_if_ne (tgt := 19) (n := 17) dX6_runs_14 (by decide) rfl (fun c_14 => ?_) (fun c_14 => ?_)
    · rw [nb_t] at c_6 c_14
      unfold sp_runs at hq
      rw [if_pos (by rw [c_6, c_14]; rfl)] at hq
      obtain ⟨n, hn60, rfl⟩ := ix_of c_6 (by decide)
      rw [nat_nI (by omega)] at hq
      refine J_aload_n (i := 0) (n := 20) dX6_runs_19 rfl rfl rfl ?_
      refine T_getO (k := 2) (n := 23) wk_X6 dX6_runs_20 wf_X6_23 (by decide) (by first | assumption | decide) rfl rfl ?_
      refine J_aload_n (i := 0) (n := 24) dX6_runs_23 rfl rfl rfl ?_
      refine T_getO (k := 0) (n := 27) wk_X6 dX6_runs_24 wf_X6_10 (by decide) (by first | assumption | decide) rfl rfl ?_
      refine J_callVx (n := 30) wS_X5_become (K_eta 5 1 (c_W_become (Q := fun r h => r = none ∧ ∃ t1, wR t1 S.1.1 ∧ h = hp G (gs_set σ 5 1 t1)) (d + 10) (i := 1) (j := 0) (by decide) (by decide) (by decide) hw hO (fun t1 h1 => ⟨rfl, t1, h1, rfl⟩))) dX6_runs_27 wm_X6_85 ⟨wM_X5_become, wV_X5_become⟩ rfl (T_recv (by decide) (by first | assumption | decide)) rfl rfl (Nat.le_of_ble_eq_true rfl) rfl (fun r h1 hq1 => ?_)
      obtain ⟨rfl, t1, hw1, rfl⟩ := hq1
      refine J_iload_n (i := 2) (n := 31) dX6_runs_30 rfl rfl rfl ?_
      refine J_iconst (n := 32) dX6_runs_31 kI_4 rfl ?_
      refine J_icmp_ne (tgt := 50) (n := 35) dX6_runs_32 (by decide) rfl (fun c_32 => ?_) (fun c_32 => ?_)
      · refine J_aload_n (i := 0) (n := 51) dX6_runs_50 rfl rfl rfl ?_
        refine T_getO (k := 2) (n := 54) wk_X6 dX6_runs_51 wf_X6_23 (by decide) (by first | assumption | decide) rfl rfl ?_
        refine J_iload_n (i := 1) (n := 55) dX6_runs_54 rfl rfl rfl ?_
        refine J_callVx (n := 58) wS_X5_passDays (c_W_passDays (Q := fun r h => r = none ∧ ∃ t2, wR t2 (pw_days S.1.1 n) ∧ h = hp G (gs_set σ 5 1 t2)) (d + 6) (i := 1) (by decide) hw1 hO (show S.1.1.2.2 10 + n < 2 ^ 30 by omega) (fun t2 h2 => ⟨rfl, t2, h2, rfl⟩)) dX6_runs_55 wm_X6_170 ⟨wM_X5_passDays, wV_X5_passDays⟩ rfl (T_recv (by decide) (by first | assumption | decide)) rfl rfl (Nat.le_of_ble_eq_true rfl) rfl (fun r h1 hq1 => ?_)
        obtain ⟨rfl, t2, hw2, rfl⟩ := hq1
        refine J_iload_n (i := 2) (n := 59) dX6_runs_58 rfl rfl rfl ?_
        by_cases e_59_0 : w = 0
        · rw [e_59_0]
          refine J_tableIn (off := 25) (tgt := 84) dX6_runs_59 (by decide) (by decide) (by decide) (by decide) ?_
          refine J_aload_n (i := 0) (n := 85) dX6_runs_84 rfl rfl rfl ?_
          refine T_getO (k := 2) (n := 88) wk_X6 dX6_runs_85 wf_X6_23 (by decide) (by first | assumption | decide) rfl rfl ?_
          refine T_get (k := 9) (n := 91) wk_X5 dX6_runs_88 wf_X6_108 (by decide) (by first | assumption | decide) rfl rfl ?_
          refine J_aload_n (i := 0) (n := 92) dX6_runs_91 rfl rfl rfl ?_
          refine T_getO (k := 0) (n := 95) wk_X6 dX6_runs_92 wf_X6_10 (by decide) (by first | assumption | decide) rfl rfl ?_
          refine T_getO (k := 9) (n := 98) wk_X5 dX6_runs_95 wf_X6_108 (by decide) (by first | assumption | decide) rfl rfl ?_
          refine J_isub (n := 99) dX6_runs_98 rfl ?_
          refine J_iret dX6_runs_99 rfl (kN_i _) ?_
          rw [if_neg (show ¬ w = 4 from c_32), if_pos e_59_0] at hq
          rw [hw2.2.2.2.2 9 (by decide) (by decide), gs_neI (by decide : (0 : Nat) ≠ 1), e9]
          exact hq _ (hc.scr1 (c := 5) (i := 1) (Or.inl ⟨rfl, by decide, by decide⟩)) (gs_neC (by decide))
        by_cases e_59_1 : w = 1
        · rw [e_59_1]
          refine J_tableIn (off := 41) (tgt := 100) dX6_runs_59 (by decide) (by decide) (by decide) (by decide) ?_
          refine J_aload_n (i := 0) (n := 101) dX6_runs_100 rfl rfl rfl ?_
          refine T_getO (k := 2) (n := 104) wk_X6 dX6_runs_101 wf_X6_23 (by decide) (by first | assumption | decide) rfl rfl ?_
          refine T_get (k := 5) (n := 107) wk_X5 dX6_runs_104 wf_X6_111 (by decide) (by first | assumption | decide) rfl rfl ?_
          refine J_iret dX6_runs_107 rfl (kN_i _) ?_
          rw [if_neg (show ¬ w = 4 from c_32), if_neg e_59_0, if_pos e_59_1] at hq
          rw [hw2.2.2.2.1]
          exact hq _ (hc.scr1 (c := 5) (i := 1) (Or.inl ⟨rfl, by decide, by decide⟩)) (gs_neC (by decide))
        by_cases e_59_2 : w = 2
        · rw [e_59_2]
          refine J_tableIn (off := 49) (tgt := 108) dX6_runs_59 (by decide) (by decide) (by decide) (by decide) ?_
          refine J_aload_n (i := 0) (n := 109) dX6_runs_108 rfl rfl rfl ?_
          refine T_getO (k := 2) (n := 112) wk_X6 dX6_runs_109 wf_X6_23 (by decide) (by first | assumption | decide) rfl rfl ?_
          refine J_callVr (n := 115) wS_X5_coldOnes (c_W_coldOnes (d + 9) (i := 1) (by decide) (show wR (gs_set σ 5 1 t2 5 1) _ by rw [gs_same]; exact hw2) (pw_days_ok hO n) ⟨rfl, rfl⟩) dX6_runs_112 wm_X6_114 ⟨wM_X5_coldOnes, wV_X5_coldOnes⟩ rfl (T_recv (by decide) (by first | assumption | decide)) rfl rfl (Nat.le_of_ble_eq_true rfl) rfl ?_
          refine J_iret dX6_runs_115 rfl (kN_i _) ?_
          rw [if_neg (show ¬ w = 4 from c_32), if_neg e_59_0, if_neg e_59_1, if_pos e_59_2] at hq
          rw [pw_days_f _ _ _ (by decide) (by decide) (by decide)]
          exact hq _ (hc.scr1 (c := 5) (i := 1) (Or.inl ⟨rfl, by decide, by decide⟩)) (gs_neC (by decide))
        refine J_tableOut (tgt := 116) dX6_runs_59 (by have q_0 := lv_neT (a := 0) e_59_0 rfl; have q_1 := lv_neT (a := 1) e_59_1 rfl; have q_2 := lv_neT (a := 2) e_59_2 rfl; omega) (by decide) ?_
        refine J_aload_n (i := 0) (n := 117) dX6_runs_116 rfl rfl rfl ?_
        refine T_getO (k := 2) (n := 120) wk_X6 dX6_runs_117 wf_X6_23 (by decide) (by first | assumption | decide) rfl rfl ?_
        refine T_get (k := 8) (n := 123) wk_X5 dX6_runs_120 wf_X6_105 (by decide) (by first | assumption | decide) rfl rfl ?_
        refine J_iret dX6_runs_123 rfl (kN_i _) ?_
        rw [if_neg (show ¬ w = 4 from c_32), if_neg e_59_0, if_neg e_59_1, if_neg e_59_2] at hq
        rw [hw2.2.2.2.2 8 (by decide) (by decide)]
        exact hq _ (hc.scr1 (c := 5) (i := 1) (Or.inl ⟨rfl, by decide, by decide⟩)) (gs_neC (by decide))
      · refine J_aload_n (i := 0) (n := 36) dX6_runs_35 rfl rfl rfl ?_
        refine J_aload_n (i := 0) (n := 37) dX6_runs_36 rfl rfl rfl ?_
        refine T_getO (k := 0) (n := 40) wk_X6 dX6_runs_37 wf_X6_10 (by decide) (by first | assumption | decide) rfl rfl ?_
        refine T_getO (k := 5) (n := 43) wk_X5 dX6_runs_40 wf_X6_111 (by decide) (by first | assumption | decide) rfl rfl ?_
        refine J_iconst (n := 44) dX6_runs_43 kI_m1 rfl ?_
        refine J_ixor (n := 45) dX6_runs_44 rfl ?_
        rw [gs_neI (by decide : (0 : Nat) ≠ 1), hw.2.2.2.1]
        refine J_iload_n (i := 1) (n := 46) dX6_runs_45 rfl rfl rfl ?_
        refine J_callVx (n := 49) wS_X6_firstPairing (c_G_firstPairing (Q := fun r h => r = some (.int (fp (Tn S.1.1.2.1) S.1.1 (n + 1) 0)) ∧ ∃ t2, h = hp G (gs_set σ 5 1 t2)) (d + 5) _ (Tn S.1.1.2.1) (tn_m S.1.1.2.1) hw1 hO (by omega) (fun t2 => ⟨rfl, t2, rfl⟩)) dX6_runs_46 wm_X6_173 ⟨wM_X6_firstPairing, wV_X6_firstPairing⟩ rfl (T_recv (by decide) (by first | assumption | decide)) rfl rfl (Nat.le_of_ble_eq_true rfl) rfl (fun r h1 hq1 => ?_)
        obtain ⟨rfl, t2, rfl⟩ := hq1
        refine J_iret dX6_runs_49 rfl (kN_i _) ?_
        rw [if_pos (show w = 4 from c_32)] at hq
        exact hq _ (hc.scr1 (c := 5) (i := 1) (Or.inl ⟨rfl, by decide, by decide⟩)) (gs_neC (by decide))
    · refine J_iconst (n := 18) dX6_runs_17 kI_m1 rfl ?_
      refine J_iret dX6_runs_18 rfl (kN_i _) ?_
      unfold sp_runs at hq
      rw [if_neg (by first | (rw [nb_0] at c_6; rw [c_6, Bool.false_and]; decide) | (rw [nb_0] at c_14; rw [c_14, Bool.and_false]; decide))] at hq
      exact hq σ hc rfl

set_option maxHeartbeats 4000000 in
set_option maxRecDepth 100000 in
theorem c_G_ahead {G : gx_G} {σ : gs_S} {Q : Option Value → gx_Hp → Prop} {S : pS} (d : Nat) (g x w : Int32) (hS : SOk S) (hc : cR σ S) (hq : ∀ τ, cR τ S → τ 7 0 = σ 7 0 → Q (some (.int (sp_ahead S g x w))) (hp G τ)) : gx_K G yX6_ahead mX6_ahead (d + 12) 0 0 [.ref (gs_a G 6 0 0), .int g, .int x, .int w] (hp G σ) Q := by
  obtain ⟨hw, hs⟩ := hc.1
  have hO := hS.1.1
  have h4 : S.1.1.2.2 6 ≤ 4 := hO.2.2.2.2.1
  have h6 : S.1.1.2.2 7 ≤ 6 := hO.2.2.2.2.2.1
  have hm11 : S.1.1.2.2 8 ≤ 11 := hO.2.2.2.2.2.2.1
  have hn9 : S.1.1.2.2 9 ≤ 9999 := hO.2.2.2.2.2.2.2
  have hd9 : S.1.1.2.2 10 ≤ 999 := hS.1.2.2.1
  have e6 := hw.2.2.2.2 6 (by decide) (by decide)
  have e7 := hw.2.2.2.2 7 (by decide) (by decide)
  have e8 := hw.2.2.2.2 8 (by decide) (by decide)
  have e9 := hw.2.2.2.2 9 (by decide) (by decide)
  have e10 := hw.2.2.2.2 10 (by decide) (by decide)
  refine gx_K.of' (lv := [(0, _), (1, _), (2, _), (3, _)]) (by decide) rfl (by decide) (Nat.le_of_ble_eq_true rfl) rfl ?_
  refine J_aload_n (i := 0) (n := 1) dX6_ahead_0 rfl rfl rfl ?_
  refine J_iload_n (i := 1) (n := 2) dX6_ahead_1 rfl rfl rfl ?_
  refine J_callVr (n := 5) wS_X6_isGlove (c_isGlove (d + 10) g hw hO ⟨rfl, rfl⟩) dX6_ahead_2 wm_X6_121 ⟨wM_X6_isGlove, wV_X6_isGlove⟩ rfl (T_recv (by decide) (by first | assumption | decide)) rfl rfl (Nat.le_of_ble_eq_true rfl) rfl ?_
  refine J_if_eq (tgt := 25) (n := 8) dX6_ahead_5 (by decide) rfl (fun c_5 => ?_) (fun c_5 => ?_)
  · refine J_iconst (n := 26) dX6_ahead_25 kI_m1 rfl ?_
    refine J_iret dX6_ahead_26 rfl (kN_i _) ?_
    unfold sp_ahead at hq
    rw [if_neg (by
      first
      | (rw [nb_0] at c_5; rw [show isG S g = false from c_5, Bool.false_and]; decide)
      | (rw [nb_0] at c_14; rw [c_14, Bool.false_and, Bool.and_false]; decide)
      | (rw [nb_0] at c_22; rw [c_22, Bool.and_false, Bool.and_false]; decide))] at hq
    exact hq σ hc rfl
  · refine J_iload_n (i := 2) (n := 9) dX6_ahead_8 rfl rfl rfl ?_
    refine J_bipush (n := 11) dX6_ahead_9 kB_60 rfl ?_
    refine J_callSr (n := 14) wS_X6_isWithin (c_isWithin (d + 11) x 60 ⟨rfl, rfl⟩) dX6_ahead_11 wm_X6_51 wT_X6_isWithin rfl rfl (Nat.le_of_ble_eq_true rfl) rfl ?_
    refine J_if_eq (tgt := 25) (n := 17) dX6_ahead_14 (by decide) rfl (fun c_14 => ?_) (fun c_14 => ?_)
    · refine J_iconst (n := 26) dX6_ahead_25 kI_m1 rfl ?_
      refine J_iret dX6_ahead_26 rfl (kN_i _) ?_
      unfold sp_ahead at hq
      rw [if_neg (by
        first
        | (rw [nb_0] at c_5; rw [show isG S g = false from c_5, Bool.false_and]; decide)
        | (rw [nb_0] at c_14; rw [c_14, Bool.false_and, Bool.and_false]; decide)
        | (rw [nb_0] at c_22; rw [c_22, Bool.and_false, Bool.and_false]; decide))] at hq
      exact hq σ hc rfl
    · refine J_iload_n (i := 3) (n := 18) dX6_ahead_17 rfl rfl rfl ?_
      refine J_iconst (n := 19) dX6_ahead_18 kI_1 rfl ?_
      refine J_callSr (n := 22) wS_X6_isWithin (c_isWithin (d + 11) w 1 ⟨rfl, rfl⟩) dX6_ahead_19 wm_X6_51 wT_X6_isWithin rfl rfl (Nat.le_of_ble_eq_true rfl) rfl ?_
      refine J_if_ne (tgt := 27) (n := 25) dX6_ahead_22 (by decide) rfl (fun c_22 => ?_) (fun c_22 => ?_)
      · rw [nb_t] at c_5 c_14 c_22
        unfold sp_ahead at hq
        rw [if_pos (by rw [show isG S g = true from c_5, c_14, c_22]; rfl)] at hq
        obtain ⟨j, hj, rfl⟩ := isG_of (S := S) c_5 hO
        obtain ⟨n, hn60, rfl⟩ := ix_of c_14 (by decide)
        rw [nat_nI (by omega), nat_nI (by omega)] at hq
        refine J_aload_n (i := 0) (n := 28) dX6_ahead_27 rfl rfl rfl ?_
        refine T_getO (k := 2) (n := 31) wk_X6 dX6_ahead_28 wf_X6_23 (by decide) (by first | assumption | decide) rfl rfl ?_
        refine J_aload_n (i := 0) (n := 32) dX6_ahead_31 rfl rfl rfl ?_
        refine T_getO (k := 0) (n := 35) wk_X6 dX6_ahead_32 wf_X6_10 (by decide) (by first | assumption | decide) rfl rfl ?_
        refine J_callVx (n := 38) wS_X5_become (K_eta 5 1 (c_W_become (Q := fun r h => r = none ∧ ∃ t1, wR t1 S.1.1 ∧ h = hp G (gs_set σ 5 1 t1)) (d + 10) (i := 1) (j := 0) (by decide) (by decide) (by decide) hw hO (fun t1 h1 => ⟨rfl, t1, h1, rfl⟩))) dX6_ahead_35 wm_X6_85 ⟨wM_X5_become, wV_X5_become⟩ rfl (T_recv (by decide) (by first | assumption | decide)) rfl rfl (Nat.le_of_ble_eq_true rfl) rfl (fun r h1 hq1 => ?_)
        obtain ⟨rfl, t1, hw1, rfl⟩ := hq1
        refine J_aload_n (i := 0) (n := 39) dX6_ahead_38 rfl rfl rfl ?_
        refine T_getO (k := 2) (n := 42) wk_X6 dX6_ahead_39 wf_X6_23 (by decide) (by first | assumption | decide) rfl rfl ?_
        refine J_iload_n (i := 2) (n := 43) dX6_ahead_42 rfl rfl rfl ?_
        refine J_callVx (n := 46) wS_X5_passDays (c_W_passDays (Q := fun r h => r = none ∧ ∃ t2, wR t2 (pw_days S.1.1 n) ∧ h = hp G (gs_set σ 5 1 t2)) (d + 6) (i := 1) (by decide) hw1 hO (show S.1.1.2.2 10 + n < 2 ^ 30 by omega) (fun t2 h2 => ⟨rfl, t2, h2, rfl⟩)) dX6_ahead_43 wm_X6_170 ⟨wM_X5_passDays, wV_X5_passDays⟩ rfl (T_recv (by decide) (by first | assumption | decide)) rfl rfl (Nat.le_of_ble_eq_true rfl) rfl (fun r h1 hq1 => ?_)
        obtain ⟨rfl, t2, hw2, rfl⟩ := hq1
        have hj2 : j < (pw_days S.1.1 n).2.2 6 := by rw [pw_days_f _ _ _ (by decide) (by decide) (by decide)]; exact hj
        obtain ⟨q1, q2, q3⟩ := hw2.2.1 j hj2
        refine J_iload_n (i := 3) (n := 47) dX6_ahead_46 rfl rfl rfl ?_
        refine J_if_ne (tgt := 62) (n := 50) dX6_ahead_47 (by decide) rfl (fun c_47 => ?_) (fun c_47 => ?_)
        · refine J_aload_n (i := 0) (n := 63) dX6_ahead_62 rfl rfl rfl ?_
          refine T_getO (k := 2) (n := 66) wk_X6 dX6_ahead_63 wf_X6_23 (by decide) (by first | assumption | decide) rfl rfl ?_
          refine T_get (k := 3) (n := 69) wk_X5 dX6_ahead_66 wf_X6_176 (by decide) (by first | assumption | decide) rfl rfl ?_
          refine J_iload_n (i := 1) (n := 70) dX6_ahead_69 rfl rfl rfl ?_
          refine T_iald (c := 5) (k := 3) (N := 4) (n := 71) dX6_ahead_70 (by decide) (by first | assumption | decide) rfl (vp_in_nI (by omega) (by decide)) rfl ?_
          try rw [nI_clamp (by omega), q3]
          refine J_iret dX6_ahead_71 rfl (kN_i _) ?_
          first
          | (rw [if_pos c_47] at hq; exact hq _ (hc.scr1 (c := 5) (i := 1) (Or.inl ⟨rfl, by decide, by decide⟩)) (gs_neC (by decide)))
          | (rw [if_neg c_47] at hq; exact hq _ (hc.scr1 (c := 5) (i := 1) (Or.inl ⟨rfl, by decide, by decide⟩)) (gs_neC (by decide)))
        · refine J_aload_n (i := 0) (n := 51) dX6_ahead_50 rfl rfl rfl ?_
          refine T_getO (k := 2) (n := 54) wk_X6 dX6_ahead_51 wf_X6_23 (by decide) (by first | assumption | decide) rfl rfl ?_
          refine T_get (k := 2) (n := 57) wk_X5 dX6_ahead_54 wf_X6_132 (by decide) (by first | assumption | decide) rfl rfl ?_
          refine J_iload_n (i := 1) (n := 58) dX6_ahead_57 rfl rfl rfl ?_
          refine T_iald (c := 5) (k := 2) (N := 4) (n := 59) dX6_ahead_58 (by decide) (by first | assumption | decide) rfl (vp_in_nI (by omega) (by decide)) rfl ?_
          rw [nI_clamp (by omega), q2]
          refine J_goto (tgt := 71) dX6_ahead_59 (by decide) ?_
          try rw [nI_clamp (by omega), q3]
          refine J_iret dX6_ahead_71 rfl (kN_i _) ?_
          first
          | (rw [if_pos c_47] at hq; exact hq _ (hc.scr1 (c := 5) (i := 1) (Or.inl ⟨rfl, by decide, by decide⟩)) (gs_neC (by decide)))
          | (rw [if_neg c_47] at hq; exact hq _ (hc.scr1 (c := 5) (i := 1) (Or.inl ⟨rfl, by decide, by decide⟩)) (gs_neC (by decide)))
      · refine J_iconst (n := 26) dX6_ahead_25 kI_m1 rfl ?_
        refine J_iret dX6_ahead_26 rfl (kN_i _) ?_
        unfold sp_ahead at hq
        rw [if_neg (by
          first
          | (rw [nb_0] at c_5; rw [show isG S g = false from c_5, Bool.false_and]; decide)
          | (rw [nb_0] at c_14; rw [c_14, Bool.false_and, Bool.and_false]; decide)
          | (rw [nb_0] at c_22; rw [c_22, Bool.and_false, Bool.and_false]; decide))] at hq
        exact hq σ hc rfl

set_option maxHeartbeats 4000000 in
set_option maxRecDepth 100000 in
theorem c_G_meets {G : gx_G} {σ : gs_S} {Q : Option Value → gx_Hp → Prop} {S : pS} (d : Nat) (g : Int32) (hS : SOk S) (hc : cR σ S) (hq : ∀ τ, cR τ S → τ 7 0 = σ 7 0 → Q (some (.int (sp_meets S g))) (hp G τ)) : gx_K G yX6_meets mX6_meets (d + 12) 0 0 [.ref (gs_a G 6 0 0), .int g] (hp G σ) Q := by
  obtain ⟨hw, hs⟩ := hc.1
  have hO := hS.1.1
  have h4 : S.1.1.2.2 6 ≤ 4 := hO.2.2.2.2.1
  have h6 : S.1.1.2.2 7 ≤ 6 := hO.2.2.2.2.2.1
  have hm11 : S.1.1.2.2 8 ≤ 11 := hO.2.2.2.2.2.2.1
  have hn9 : S.1.1.2.2 9 ≤ 9999 := hO.2.2.2.2.2.2.2
  have hd9 : S.1.1.2.2 10 ≤ 999 := hS.1.2.2.1
  have e6 := hw.2.2.2.2 6 (by decide) (by decide)
  have e7 := hw.2.2.2.2 7 (by decide) (by decide)
  have e8 := hw.2.2.2.2 8 (by decide) (by decide)
  have e9 := hw.2.2.2.2 9 (by decide) (by decide)
  have e10 := hw.2.2.2.2 10 (by decide) (by decide)
  refine gx_K.of' (lv := [(0, _), (1, _)]) (by decide) rfl (by decide) (Nat.le_of_ble_eq_true rfl) rfl ?_
  refine J_aload_n (i := 0) (n := 1) dX6_meets_0 rfl rfl rfl ?_
  refine J_iload_n (i := 1) (n := 2) dX6_meets_1 rfl rfl rfl ?_
  refine J_callVr (n := 5) wS_X6_isGlove (c_isGlove (d + 10) g hw hO ⟨rfl, rfl⟩) dX6_meets_2 wm_X6_121 ⟨wM_X6_isGlove, wV_X6_isGlove⟩ rfl (T_recv (by decide) (by first | assumption | decide)) rfl rfl (Nat.le_of_ble_eq_true rfl) rfl ?_
  refine J_if_ne (tgt := 10) (n := 8) dX6_meets_5 (by decide) rfl (fun c_5 => ?_) (fun c_5 => ?_)
  · rw [nb_t] at c_5
    unfold sp_meets at hq
    rw [if_pos (show isG S g = true from c_5)] at hq
    obtain ⟨j, hj, rfl⟩ := isG_of (S := S) c_5 hO
    rw [show nat (nI j) = j from nI_clamp (by omega)] at hq
    obtain ⟨k3, a11, w20⟩ := hO.2.1 j hj
    obtain ⟨f1, f2, f3⟩ := hw.2.1 j hj
    refine J_aload_n (i := 0) (n := 11) dX6_meets_10 rfl rfl rfl ?_
    refine T_getO (k := 2) (n := 14) wk_X6 dX6_meets_11 wf_X6_23 (by decide) (by first | assumption | decide) rfl rfl ?_
    refine J_aload_n (i := 0) (n := 15) dX6_meets_14 rfl rfl rfl ?_
    refine T_getO (k := 0) (n := 18) wk_X6 dX6_meets_15 wf_X6_10 (by decide) (by first | assumption | decide) rfl rfl ?_
    refine J_callVx (n := 21) wS_X5_become (K_eta 5 1 (c_W_become (Q := fun r h => r = none ∧ ∃ t1, wR t1 S.1.1 ∧ h = hp G (gs_set σ 5 1 t1)) (d + 10) (i := 1) (j := 0) (by decide) (by decide) (by decide) hw hO (fun t1 h1 => ⟨rfl, t1, h1, rfl⟩))) dX6_meets_18 wm_X6_85 ⟨wM_X5_become, wV_X5_become⟩ rfl (T_recv (by decide) (by first | assumption | decide)) rfl rfl (Nat.le_of_ble_eq_true rfl) rfl (fun r h1 hq1 => ?_)
    obtain ⟨rfl, t1, hw1, rfl⟩ := hq1
    refine J_aload_n (i := 0) (n := 22) dX6_meets_21 rfl rfl rfl ?_
    refine J_iconst (n := 23) dX6_meets_22 kI_1 rfl ?_
    refine J_iload_n (i := 1) (n := 24) dX6_meets_23 rfl rfl rfl ?_
    refine J_ishl (n := 25) dX6_meets_24 rfl ?_
    refine J_bipush (n := 27) dX6_meets_25 kB_60 rfl ?_
    refine J_callVx (n := 30) wS_X6_firstPairing (c_G_firstPairing (Q := fun r h => r = some (.int (fp (Tg j) S.1.1 (60 + 1) 0)) ∧ ∃ t2, h = hp G (gs_set σ 5 1 t2)) (d + 5) _ (Tg j) (fun f => tg_m f (by omega)) hw1 hO (by omega) (fun t2 => ⟨rfl, t2, rfl⟩)) dX6_meets_27 wm_X6_173 ⟨wM_X6_firstPairing, wV_X6_firstPairing⟩ rfl (T_recv (by decide) (by first | assumption | decide)) rfl rfl (Nat.le_of_ble_eq_true rfl) rfl (fun r h1 hq1 => ?_)
    obtain ⟨rfl, t2, rfl⟩ := hq1
    refine J_iret dX6_meets_30 rfl (kN_i _) ?_
    exact hq _ (hc.scr1 (c := 5) (i := 1) (Or.inl ⟨rfl, by decide, by decide⟩)) (gs_neC (by decide))
  · refine J_iconst (n := 9) dX6_meets_8 kI_m1 rfl ?_
    refine J_iret dX6_meets_9 rfl (kN_i _) ?_
    rw [nb_0] at c_5
    unfold sp_meets at hq
    rw [if_neg (by rw [show isG S g = false from c_5]; decide)] at hq
    exact hq σ hc rfl

set_option maxHeartbeats 4000000 in
set_option maxRecDepth 100000 in
theorem c_G_need {G : gx_G} {σ : gs_S} {Q : Option Value → gx_Hp → Prop} {S : pS} (d : Nat) (g x : Int32) (hS : SOk S) (hc : cR σ S) (hq : ∀ τ, cR τ S → τ 7 0 = σ 7 0 → Q (some (.int (sp_need S g x))) (hp G τ)) : gx_K G yX6_need mX6_need (d + 12) 0 0 [.ref (gs_a G 6 0 0), .int g, .int x] (hp G σ) Q := by
  obtain ⟨hw, hs⟩ := hc.1
  have hO := hS.1.1
  have h4 : S.1.1.2.2 6 ≤ 4 := hO.2.2.2.2.1
  have h6 : S.1.1.2.2 7 ≤ 6 := hO.2.2.2.2.2.1
  have hm11 : S.1.1.2.2 8 ≤ 11 := hO.2.2.2.2.2.2.1
  have hn9 : S.1.1.2.2 9 ≤ 9999 := hO.2.2.2.2.2.2.2
  have hd9 : S.1.1.2.2 10 ≤ 999 := hS.1.2.2.1
  have e6 := hw.2.2.2.2 6 (by decide) (by decide)
  have e7 := hw.2.2.2.2 7 (by decide) (by decide)
  have e8 := hw.2.2.2.2 8 (by decide) (by decide)
  have e9 := hw.2.2.2.2 9 (by decide) (by decide)
  have e10 := hw.2.2.2.2 10 (by decide) (by decide)
  refine gx_K.of' (lv := [(0, _), (1, _), (2, _)]) (by decide) rfl (by decide) (Nat.le_of_ble_eq_true rfl) rfl ?_
  refine J_aload_n (i := 0) (n := 1) dX6_need_0 rfl rfl rfl ?_
  refine J_iload_n (i := 1) (n := 2) dX6_need_1 rfl rfl rfl ?_
  refine J_callVr (n := 5) wS_X6_isGlove (c_isGlove (d + 10) g hw hO ⟨rfl, rfl⟩) dX6_need_2 wm_X6_121 ⟨wM_X6_isGlove, wV_X6_isGlove⟩ rfl (T_recv (by decide) (by first | assumption | decide)) rfl rfl (Nat.le_of_ble_eq_true rfl) rfl ?_
  refine J_if_eq (tgt := 17) (n := 8) dX6_need_5 (by decide) rfl (fun c_5 => ?_) (fun c_5 => ?_)
  · refine J_iconst (n := 18) dX6_need_17 kI_m1 rfl ?_
    refine J_iret dX6_need_18 rfl (kN_i _) ?_
    unfold sp_need at hq
    rw [if_neg (by first | (rw [nb_0] at c_5; rw [show isG S g = false from c_5, Bool.false_and]; decide) | (rw [nb_0] at c_14; rw [c_14, Bool.and_false]; decide))] at hq
    exact hq σ hc rfl
  · refine J_iload_n (i := 2) (n := 9) dX6_need_8 rfl rfl rfl ?_
    refine J_bipush (n := 11) dX6_need_9 kB_60 rfl ?_
    refine J_callSr (n := 14) wS_X6_isWithin (c_isWithin (d + 11) x 60 ⟨rfl, rfl⟩) dX6_need_11 wm_X6_51 wT_X6_isWithin rfl rfl (Nat.le_of_ble_eq_true rfl) rfl ?_
    refine J_if_ne (tgt := 19) (n := 17) dX6_need_14 (by decide) rfl (fun c_14 => ?_) (fun c_14 => ?_)
    · rw [nb_t] at c_5 c_14
      unfold sp_need at hq
      rw [if_pos (by rw [show isG S g = true from c_5, c_14]; rfl)] at hq
      obtain ⟨j, hj, rfl⟩ := isG_of (S := S) c_5 hO
      obtain ⟨n, hn60, rfl⟩ := ix_of c_14 (by decide)
      rw [nat_nI (by omega), nat_nI (by omega)] at hq
      refine J_aload_n (i := 0) (n := 20) dX6_need_19 rfl rfl rfl ?_
      refine T_getO (k := 2) (n := 23) wk_X6 dX6_need_20 wf_X6_23 (by decide) (by first | assumption | decide) rfl rfl ?_
      refine J_aload_n (i := 0) (n := 24) dX6_need_23 rfl rfl rfl ?_
      refine T_getO (k := 0) (n := 27) wk_X6 dX6_need_24 wf_X6_10 (by decide) (by first | assumption | decide) rfl rfl ?_
      refine J_callVx (n := 30) wS_X5_become (K_eta 5 1 (c_W_become (Q := fun r h => r = none ∧ ∃ t1, wR t1 S.1.1 ∧ h = hp G (gs_set σ 5 1 t1)) (d + 10) (i := 1) (j := 0) (by decide) (by decide) (by decide) hw hO (fun t1 h1 => ⟨rfl, t1, h1, rfl⟩))) dX6_need_27 wm_X6_85 ⟨wM_X5_become, wV_X5_become⟩ rfl (T_recv (by decide) (by first | assumption | decide)) rfl rfl (Nat.le_of_ble_eq_true rfl) rfl (fun r h1 hq1 => ?_)
      obtain ⟨rfl, t1, hw1, rfl⟩ := hq1
      refine J_aload_n (i := 0) (n := 31) dX6_need_30 rfl rfl rfl ?_
      refine T_getO (k := 2) (n := 34) wk_X6 dX6_need_31 wf_X6_23 (by decide) (by first | assumption | decide) rfl rfl ?_
      refine J_iload_n (i := 1) (n := 35) dX6_need_34 rfl rfl rfl ?_
      refine J_iconst (n := 36) dX6_need_35 kI_2 rfl ?_
      refine J_bipush (n := 38) dX6_need_36 kB_20 rfl ?_
      refine J_callVx (n := 41) wS_X5_putPart (c_W_putPart (Q := fun r h => r = none ∧ ∃ t3, wR t3 (pw_a S.1.1 3 j 20) ∧ h = hp G (gs_set σ 5 1 t3)) (d + 11) (i := 1) (k := 2) (by decide) hw1 (by omega) (by omega) (fun t3 h3 => ⟨rfl, t3, h3, rfl⟩)) dX6_need_38 wm_X6_162 ⟨wM_X5_putPart, wV_X5_putPart⟩ rfl (T_recv (by decide) (by first | assumption | decide)) rfl rfl (Nat.le_of_ble_eq_true rfl) rfl (fun r h1 hq1 => ?_)
      obtain ⟨rfl, t3, hw3, rfl⟩ := hq1
      refine J_aload_n (i := 0) (n := 42) dX6_need_41 rfl rfl rfl ?_
      refine J_iconst (n := 43) dX6_need_42 kI_1 rfl ?_
      refine J_iload_n (i := 1) (n := 44) dX6_need_43 rfl rfl rfl ?_
      refine J_ishl (n := 45) dX6_need_44 rfl ?_
      refine J_iload_n (i := 2) (n := 46) dX6_need_45 rfl rfl rfl ?_
      refine J_callVx (n := 49) wS_X6_firstPairing (c_G_firstPairing (Q := fun r h => r = some (.int (fp (Tg j) (pw_a S.1.1 3 j 20) (n + 1) 0)) ∧ ∃ t2, h = hp G (gs_set σ 5 1 t2)) (d + 5) _ (Tg j) (fun f => tg_m f (by omega)) hw3 (pw_a_ok hO (by omega)) (show S.1.1.2.2 10 + n + 1 < 2 ^ 30 by omega) (fun t2 => ⟨rfl, t2, rfl⟩)) dX6_need_46 wm_X6_173 ⟨wM_X6_firstPairing, wV_X6_firstPairing⟩ rfl (T_recv (by decide) (by first | assumption | decide)) rfl rfl (Nat.le_of_ble_eq_true rfl) rfl (fun r h1 hq1 => ?_)
      obtain ⟨rfl, t2, rfl⟩ := hq1
      refine J_iret dX6_need_49 rfl (kN_i _) ?_
      exact hq _ (hc.scr1 (c := 5) (i := 1) (Or.inl ⟨rfl, by decide, by decide⟩)) (gs_neC (by decide))
    · refine J_iconst (n := 18) dX6_need_17 kI_m1 rfl ?_
      refine J_iret dX6_need_18 rfl (kN_i _) ?_
      unfold sp_need at hq
      rw [if_neg (by first | (rw [nb_0] at c_5; rw [show isG S g = false from c_5, Bool.false_and]; decide) | (rw [nb_0] at c_14; rw [c_14, Bool.and_false]; decide))] at hq
      exact hq σ hc rfl

set_option maxHeartbeats 4000000 in
set_option maxRecDepth 100000 in
theorem c_G_place {G : gx_G} {σ : gs_S} {Q : Option Value → gx_Hp → Prop} {S : pS} (d : Nat) (g x w : Int32) (hS : SOk S) (hc : cR σ S) (hq : ∀ τ, cR τ S → τ 7 0 = σ 7 0 → Q (some (.int (sp_place S g x w))) (hp G τ)) : gx_K G yX6_place mX6_place (d + 12) 0 0 [.ref (gs_a G 6 0 0), .int g, .int x, .int w] (hp G σ) Q := by
  obtain ⟨hw, hs⟩ := hc.1
  have hO := hS.1.1
  have h4 : S.1.1.2.2 6 ≤ 4 := hO.2.2.2.2.1
  have h6 : S.1.1.2.2 7 ≤ 6 := hO.2.2.2.2.2.1
  have hm11 : S.1.1.2.2 8 ≤ 11 := hO.2.2.2.2.2.2.1
  have hn9 : S.1.1.2.2 9 ≤ 9999 := hO.2.2.2.2.2.2.2
  have hd9 : S.1.1.2.2 10 ≤ 999 := hS.1.2.2.1
  have e6 := hw.2.2.2.2 6 (by decide) (by decide)
  have e7 := hw.2.2.2.2 7 (by decide) (by decide)
  have e8 := hw.2.2.2.2 8 (by decide) (by decide)
  have e9 := hw.2.2.2.2 9 (by decide) (by decide)
  have e10 := hw.2.2.2.2 10 (by decide) (by decide)
  refine gx_K.of' (lv := [(0, _), (1, _), (2, _), (3, _)]) (by decide) rfl (by decide) (Nat.le_of_ble_eq_true rfl) rfl ?_
  refine J_aload_n (i := 0) (n := 1) dX6_place_0 rfl rfl rfl ?_
  refine J_iload_n (i := 1) (n := 2) dX6_place_1 rfl rfl rfl ?_
  refine J_callVr (n := 5) wS_X6_isCall (c_isCall (d + 10) g hw hO ⟨rfl, rfl⟩) dX6_place_2 wm_X6_152 ⟨wM_X6_isCall, wV_X6_isCall⟩ rfl (T_recv (by decide) (by first | assumption | decide)) rfl rfl (Nat.le_of_ble_eq_true rfl) rfl ?_
  refine J_if_eq (tgt := 25) (n := 8) dX6_place_5 (by decide) rfl (fun c_5 => ?_) (fun c_5 => ?_)
  · refine J_iconst (n := 26) dX6_place_25 kI_m1 rfl ?_
    refine J_iret dX6_place_26 rfl (kN_i _) ?_
    unfold sp_place at hq
    rw [if_neg (by
      first
      | (rw [nb_0] at c_5; rw [show isC S g = false from c_5, Bool.false_and]; decide)
      | (rw [nb_0] at c_14; rw [c_14, Bool.false_and, Bool.and_false]; decide)
      | (rw [nb_0] at c_22; rw [c_22, Bool.and_false, Bool.and_false]; decide))] at hq
    exact hq σ hc rfl
  · refine J_iload_n (i := 2) (n := 9) dX6_place_8 rfl rfl rfl ?_
    refine J_bipush (n := 11) dX6_place_9 kB_60 rfl ?_
    refine J_callSr (n := 14) wS_X6_isWithin (c_isWithin (d + 11) x 60 ⟨rfl, rfl⟩) dX6_place_11 wm_X6_51 wT_X6_isWithin rfl rfl (Nat.le_of_ble_eq_true rfl) rfl ?_
    refine J_if_eq (tgt := 25) (n := 17) dX6_place_14 (by decide) rfl (fun c_14 => ?_) (fun c_14 => ?_)
    · refine J_iconst (n := 26) dX6_place_25 kI_m1 rfl ?_
      refine J_iret dX6_place_26 rfl (kN_i _) ?_
      unfold sp_place at hq
      rw [if_neg (by
        first
        | (rw [nb_0] at c_5; rw [show isC S g = false from c_5, Bool.false_and]; decide)
        | (rw [nb_0] at c_14; rw [c_14, Bool.false_and, Bool.and_false]; decide)
        | (rw [nb_0] at c_22; rw [c_22, Bool.and_false, Bool.and_false]; decide))] at hq
      exact hq σ hc rfl
    · refine J_iload_n (i := 3) (n := 18) dX6_place_17 rfl rfl rfl ?_
      refine J_iconst (n := 19) dX6_place_18 kI_1 rfl ?_
      refine J_callSr (n := 22) wS_X6_isWithin (c_isWithin (d + 11) w 1 ⟨rfl, rfl⟩) dX6_place_19 wm_X6_51 wT_X6_isWithin rfl rfl (Nat.le_of_ble_eq_true rfl) rfl ?_
      refine J_if_ne (tgt := 27) (n := 25) dX6_place_22 (by decide) rfl (fun c_22 => ?_) (fun c_22 => ?_)
      · rw [nb_t] at c_5 c_14 c_22
        unfold sp_place at hq
        rw [if_pos (by rw [show isC S g = true from c_5, c_14, c_22]; rfl)] at hq
        obtain ⟨j, hj, rfl⟩ := isC_of (S := S) c_5 hO
        obtain ⟨n, hn60, rfl⟩ := ix_of c_14 (by decide)
        rw [nat_nI (by omega), nat_nI (by omega)] at hq
        refine J_aload_n (i := 0) (n := 28) dX6_place_27 rfl rfl rfl ?_
        refine J_iload_n (i := 1) (n := 29) dX6_place_28 rfl rfl rfl ?_
        refine J_iload_n (i := 2) (n := 30) dX6_place_29 rfl rfl rfl ?_
        refine J_iload_n (i := 3) (n := 31) dX6_place_30 rfl rfl rfl ?_
        refine J_callVx (n := 34) wS_X6_bestDoorOfCall (K_eta 5 1 (c_G_bestDoorOfCall (Q := fun r h => r = some (.int (aq (jqs (fun e => pw_count (pw_days (pw_ex S.1.1 j e) n).2.1) 12) w)) ∧ ∃ t2, h = hp G (gs_set σ 5 1 t2)) (d + 5) w hw hO (by omega) (by omega) (by omega) (fun t2 => ⟨rfl, t2, rfl⟩))) dX6_place_31 wm_X6_179 ⟨wM_X6_bestDoorOfCall, wV_X6_bestDoorOfCall⟩ rfl (T_recv (by decide) (by first | assumption | decide)) rfl rfl (Nat.le_of_ble_eq_true rfl) rfl (fun r h1 hq1 => ?_)
        obtain ⟨rfl, t2, rfl⟩ := hq1
        refine J_iret dX6_place_34 rfl (kN_i _) ?_
        exact hq _ (hc.scr1 (c := 5) (i := 1) (Or.inl ⟨rfl, by decide, by decide⟩)) (gs_neC (by decide))
      · refine J_iconst (n := 26) dX6_place_25 kI_m1 rfl ?_
        refine J_iret dX6_place_26 rfl (kN_i _) ?_
        unfold sp_place at hq
        rw [if_neg (by
          first
          | (rw [nb_0] at c_5; rw [show isC S g = false from c_5, Bool.false_and]; decide)
          | (rw [nb_0] at c_14; rw [c_14, Bool.false_and, Bool.and_false]; decide)
          | (rw [nb_0] at c_22; rw [c_22, Bool.and_false, Bool.and_false]; decide))] at hq
        exact hq σ hc rfl

set_option maxHeartbeats 4000000 in
set_option maxRecDepth 100000 in
theorem c_G_extra {G : gx_G} {σ : gs_S} {Q : Option Value → gx_Hp → Prop} {S : pS} (d : Nat) (x w : Int32) (hS : SOk S) (hc : cR σ S) (hq : ∀ τ, cR τ S → τ 7 0 = σ 7 0 → Q (some (.int (sp_extra S x w))) (hp G τ)) : gx_K G yX6_extra mX6_extra (d + 12) 0 0 [.ref (gs_a G 6 0 0), .int x, .int w] (hp G σ) Q := by
  obtain ⟨hw, hs⟩ := hc.1
  have hO := hS.1.1
  have h4 : S.1.1.2.2 6 ≤ 4 := hO.2.2.2.2.1
  have h6 : S.1.1.2.2 7 ≤ 6 := hO.2.2.2.2.2.1
  have hm11 : S.1.1.2.2 8 ≤ 11 := hO.2.2.2.2.2.2.1
  have hn9 : S.1.1.2.2 9 ≤ 9999 := hO.2.2.2.2.2.2.2
  have hd9 : S.1.1.2.2 10 ≤ 999 := hS.1.2.2.1
  have e6 := hw.2.2.2.2 6 (by decide) (by decide)
  have e7 := hw.2.2.2.2 7 (by decide) (by decide)
  have e8 := hw.2.2.2.2 8 (by decide) (by decide)
  have e9 := hw.2.2.2.2 9 (by decide) (by decide)
  have e10 := hw.2.2.2.2 10 (by decide) (by decide)
  refine gx_K.of' (lv := [(0, _), (1, _), (2, _)]) (by decide) rfl (by decide) (Nat.le_of_ble_eq_true rfl) rfl ?_
  refine J_iload_n (i := 1) (n := 1) dX6_extra_0 rfl rfl rfl ?_
  refine J_bipush (n := 3) dX6_extra_1 kB_60 rfl ?_
  refine J_callSr (n := 6) wS_X6_isWithin (c_isWithin (d + 11) x 60 ⟨rfl, rfl⟩) dX6_extra_3 wm_X6_51 wT_X6_isWithin rfl rfl (Nat.le_of_ble_eq_true rfl) rfl ?_
  refine J_if_eq (tgt := 17) (n := 9) dX6_extra_6 (by decide) rfl (fun c_6 => ?_) (fun c_6 => ?_)
  · refine J_iconst (n := 18) dX6_extra_17 kI_m1 rfl ?_
    refine J_iret dX6_extra_18 rfl (kN_i _) ?_
    unfold sp_extra at hq
    rw [if_neg (by first | (rw [nb_0] at c_6; rw [c_6, Bool.false_and]; decide) | (rw [nb_0] at c_14; rw [c_14, Bool.and_false]; decide))] at hq
    exact hq σ hc rfl
  · refine J_iload_n (i := 2) (n := 10) dX6_extra_9 rfl rfl rfl ?_
    refine J_iconst (n := 11) dX6_extra_10 kI_1 rfl ?_
    refine J_callSr (n := 14) wS_X6_isWithin (c_isWithin (d + 11) w 1 ⟨rfl, rfl⟩) dX6_extra_11 wm_X6_51 wT_X6_isWithin rfl rfl (Nat.le_of_ble_eq_true rfl) rfl ?_
    refine J_if_ne (tgt := 19) (n := 17) dX6_extra_14 (by decide) rfl (fun c_14 => ?_) (fun c_14 => ?_)
    · rw [nb_t] at c_6 c_14
      unfold sp_extra at hq
      rw [if_pos (by rw [c_6, c_14]; rfl)] at hq
      obtain ⟨n, hn60, rfl⟩ := ix_of c_6 (by decide)
      rw [nat_nI (by omega)] at hq
      refine J_aload_n (i := 0) (n := 20) dX6_extra_19 rfl rfl rfl ?_
      refine T_getO (k := 0) (n := 23) wk_X6 dX6_extra_20 wf_X6_10 (by decide) (by first | assumption | decide) rfl rfl ?_
      refine T_getO (k := 7) (n := 26) wk_X5 dX6_extra_23 wf_X6_118 (by decide) (by first | assumption | decide) rfl rfl ?_
      rw [e7]
      refine J_bipush (n := 28) dX6_extra_26 kB_6 rfl ?_
      refine J_icmp_lt (tgt := 34) (n := 31) dX6_extra_28 (by decide) rfl (fun c_28 => ?_) (fun c_28 => ?_)
      · rw [nI_ltI (by omega) (by omega)] at c_28
        rw [if_neg (by omega)] at hq
        refine J_aload_n (i := 0) (n := 35) dX6_extra_34 rfl rfl rfl ?_
        refine J_aload_n (i := 0) (n := 36) dX6_extra_35 rfl rfl rfl ?_
        refine T_getO (k := 0) (n := 39) wk_X6 dX6_extra_36 wf_X6_10 (by decide) (by first | assumption | decide) rfl rfl ?_
        refine T_getO (k := 7) (n := 42) wk_X5 dX6_extra_39 wf_X6_118 (by decide) (by first | assumption | decide) rfl rfl ?_
        rw [e7]
        refine J_iload_n (i := 1) (n := 43) dX6_extra_42 rfl rfl rfl ?_
        refine J_iload_n (i := 2) (n := 44) dX6_extra_43 rfl rfl rfl ?_
        refine J_callVx (n := 47) wS_X6_bestDoorOfCall (K_eta 5 1 (c_G_bestDoorOfCall (Q := fun r h => r = some (.int (aq (jqs (fun e => pw_count (pw_days (pw_ex S.1.1 (S.1.1.2.2 7) e) n).2.1) 12) w)) ∧ ∃ t2, h = hp G (gs_set σ 5 1 t2)) (d + 5) w hw hO (by omega) (by omega) (by omega) (fun t2 => ⟨rfl, t2, rfl⟩))) dX6_extra_44 wm_X6_179 ⟨wM_X6_bestDoorOfCall, wV_X6_bestDoorOfCall⟩ rfl (T_recv (by decide) (by first | assumption | decide)) rfl rfl (Nat.le_of_ble_eq_true rfl) rfl (fun r h1 hq1 => ?_)
        obtain ⟨rfl, t2, rfl⟩ := hq1
        refine J_iret dX6_extra_47 rfl (kN_i _) ?_
        exact hq _ (hc.scr1 (c := 5) (i := 1) (Or.inl ⟨rfl, by decide, by decide⟩)) (gs_neC (by decide))
      · rw [nI_ltI (by omega) (by omega)] at c_28
        refine J_bipush (n := 33) dX6_extra_31 kB_m3 rfl ?_
        refine J_iret dX6_extra_33 rfl (kN_i _) ?_
        rw [if_pos (by omega)] at hq
        exact hq σ hc rfl
    · refine J_iconst (n := 18) dX6_extra_17 kI_m1 rfl ?_
      refine J_iret dX6_extra_18 rfl (kN_i _) ?_
      unfold sp_extra at hq
      rw [if_neg (by first | (rw [nb_0] at c_6; rw [c_6, Bool.false_and]; decide) | (rw [nb_0] at c_14; rw [c_14, Bool.and_false]; decide))] at hq
      exact hq σ hc rfl

set_option maxHeartbeats 4000000 in
set_option maxRecDepth 100000 in
theorem c_G_kind {G : gx_G} {σ : gs_S} {Q : Option Value → gx_Hp → Prop} {S : pS} (d : Nat) (g x w : Int32) (hS : SOk S) (hc : cR σ S) (hq : ∀ τ, cR τ S → τ 7 0 = σ 7 0 → Q (some (.int (sp_kind S g x w))) (hp G τ)) : gx_K G yX6_kind mX6_kind (d + 12) 0 0 [.ref (gs_a G 6 0 0), .int g, .int x, .int w] (hp G σ) Q := by
  obtain ⟨hw, hs⟩ := hc.1
  have hO := hS.1.1
  have h4 : S.1.1.2.2 6 ≤ 4 := hO.2.2.2.2.1
  have h6 : S.1.1.2.2 7 ≤ 6 := hO.2.2.2.2.2.1
  have hm11 : S.1.1.2.2 8 ≤ 11 := hO.2.2.2.2.2.2.1
  have hn9 : S.1.1.2.2 9 ≤ 9999 := hO.2.2.2.2.2.2.2
  have hd9 : S.1.1.2.2 10 ≤ 999 := hS.1.2.2.1
  have e6 := hw.2.2.2.2 6 (by decide) (by decide)
  have e7 := hw.2.2.2.2 7 (by decide) (by decide)
  have e8 := hw.2.2.2.2 8 (by decide) (by decide)
  have e9 := hw.2.2.2.2 9 (by decide) (by decide)
  have e10 := hw.2.2.2.2 10 (by decide) (by decide)
  refine gx_K.of' (lv := [(0, _), (1, _), (2, _), (3, _)]) (by decide) rfl (by decide) (Nat.le_of_ble_eq_true rfl) rfl ?_
  refine J_aload_n (i := 0) (n := 1) dX6_kind_0 rfl rfl rfl ?_
  refine J_iload_n (i := 1) (n := 2) dX6_kind_1 rfl rfl rfl ?_
  refine J_callVr (n := 5) wS_X6_isGlove (c_isGlove (d + 10) g hw hO ⟨rfl, rfl⟩) dX6_kind_2 wm_X6_121 ⟨wM_X6_isGlove, wV_X6_isGlove⟩ rfl (T_recv (by decide) (by first | assumption | decide)) rfl rfl (Nat.le_of_ble_eq_true rfl) rfl ?_
  refine J_if_eq (tgt := 25) (n := 8) dX6_kind_5 (by decide) rfl (fun c_5 => ?_) (fun c_5 => ?_)
  · refine J_iconst (n := 26) dX6_kind_25 kI_m1 rfl ?_
    refine J_iret dX6_kind_26 rfl (kN_i _) ?_
    unfold sp_kind at hq
    rw [if_neg (by
      first
      | (rw [nb_0] at c_5; rw [show isG S g = false from c_5, Bool.false_and]; decide)
      | (rw [nb_0] at c_14; rw [c_14, Bool.false_and, Bool.and_false]; decide)
      | (rw [nb_0] at c_22; rw [c_22, Bool.and_false, Bool.and_false]; decide))] at hq
    exact hq σ hc rfl
  · refine J_iload_n (i := 2) (n := 9) dX6_kind_8 rfl rfl rfl ?_
    refine J_bipush (n := 11) dX6_kind_9 kB_60 rfl ?_
    refine J_callSr (n := 14) wS_X6_isWithin (c_isWithin (d + 11) x 60 ⟨rfl, rfl⟩) dX6_kind_11 wm_X6_51 wT_X6_isWithin rfl rfl (Nat.le_of_ble_eq_true rfl) rfl ?_
    refine J_if_eq (tgt := 25) (n := 17) dX6_kind_14 (by decide) rfl (fun c_14 => ?_) (fun c_14 => ?_)
    · refine J_iconst (n := 26) dX6_kind_25 kI_m1 rfl ?_
      refine J_iret dX6_kind_26 rfl (kN_i _) ?_
      unfold sp_kind at hq
      rw [if_neg (by
        first
        | (rw [nb_0] at c_5; rw [show isG S g = false from c_5, Bool.false_and]; decide)
        | (rw [nb_0] at c_14; rw [c_14, Bool.false_and, Bool.and_false]; decide)
        | (rw [nb_0] at c_22; rw [c_22, Bool.and_false, Bool.and_false]; decide))] at hq
      exact hq σ hc rfl
    · refine J_iload_n (i := 3) (n := 18) dX6_kind_17 rfl rfl rfl ?_
      refine J_iconst (n := 19) dX6_kind_18 kI_1 rfl ?_
      refine J_callSr (n := 22) wS_X6_isWithin (c_isWithin (d + 11) w 1 ⟨rfl, rfl⟩) dX6_kind_19 wm_X6_51 wT_X6_isWithin rfl rfl (Nat.le_of_ble_eq_true rfl) rfl ?_
      refine J_if_ne (tgt := 27) (n := 25) dX6_kind_22 (by decide) rfl (fun c_22 => ?_) (fun c_22 => ?_)
      · rw [nb_t] at c_5 c_14 c_22
        unfold sp_kind at hq
        rw [if_pos (by rw [show isG S g = true from c_5, c_14, c_22]; rfl)] at hq
        obtain ⟨j, hj, rfl⟩ := isG_of (S := S) c_5 hO
        obtain ⟨n, hn60, rfl⟩ := ix_of c_14 (by decide)
        rw [nat_nI (by omega), nat_nI (by omega)] at hq
        refine J_aload_n (i := 0) (n := 28) dX6_kind_27 rfl rfl rfl ?_
        refine J_iload_n (i := 1) (n := 29) dX6_kind_28 rfl rfl rfl ?_
        refine J_iconst (n := 30) dX6_kind_29 kI_0 rfl ?_
        refine J_iload_n (i := 2) (n := 31) dX6_kind_30 rfl rfl rfl ?_
        refine J_iload_n (i := 3) (n := 32) dX6_kind_31 rfl rfl rfl ?_
        refine J_callVx (n := 35) wS_X6_mostNamedPart (K_eta 5 1 (c_G_mostNamedPart (Q := fun r h => r = some (.int (aq (jqs (fun z => nb S.1.1 (pw_a S.1.1 (0 + 1) j z) n) (3 + 1)) w)) ∧ ∃ t2, h = hp G (gs_set σ 5 1 t2)) (d + 5) (k := 0) (B := 3) w hw hO hj (by decide) (by omega) (fun t2 => ⟨rfl, t2, rfl⟩))) dX6_kind_32 wm_X6_191 ⟨wM_X6_mostNamedPart, wV_X6_mostNamedPart⟩ rfl (T_recv (by decide) (by first | assumption | decide)) rfl rfl (Nat.le_of_ble_eq_true rfl) rfl (fun r h1 hq1 => ?_)
        obtain ⟨rfl, t2, rfl⟩ := hq1
        refine J_iret dX6_kind_35 rfl (kN_i _) ?_
        exact hq _ (hc.scr1 (c := 5) (i := 1) (Or.inl ⟨rfl, by decide, by decide⟩)) (gs_neC (by decide))
      · refine J_iconst (n := 26) dX6_kind_25 kI_m1 rfl ?_
        refine J_iret dX6_kind_26 rfl (kN_i _) ?_
        unfold sp_kind at hq
        rw [if_neg (by
          first
          | (rw [nb_0] at c_5; rw [show isG S g = false from c_5, Bool.false_and]; decide)
          | (rw [nb_0] at c_14; rw [c_14, Bool.false_and, Bool.and_false]; decide)
          | (rw [nb_0] at c_22; rw [c_22, Bool.and_false, Bool.and_false]; decide))] at hq
        exact hq σ hc rfl

set_option maxHeartbeats 4000000 in
set_option maxRecDepth 100000 in
theorem c_G_drop {G : gx_G} {σ : gs_S} {Q : Option Value → gx_Hp → Prop} {S : pS} (d : Nat) (g x w : Int32) (hS : SOk S) (hc : cR σ S) (hq : ∀ τ, cR τ S → τ 7 0 = σ 7 0 → Q (some (.int (sp_drop S g x w))) (hp G τ)) : gx_K G yX6_drop mX6_drop (d + 12) 0 0 [.ref (gs_a G 6 0 0), .int g, .int x, .int w] (hp G σ) Q := by
  obtain ⟨hw, hs⟩ := hc.1
  have hO := hS.1.1
  have h4 : S.1.1.2.2 6 ≤ 4 := hO.2.2.2.2.1
  have h6 : S.1.1.2.2 7 ≤ 6 := hO.2.2.2.2.2.1
  have hm11 : S.1.1.2.2 8 ≤ 11 := hO.2.2.2.2.2.2.1
  have hn9 : S.1.1.2.2 9 ≤ 9999 := hO.2.2.2.2.2.2.2
  have hd9 : S.1.1.2.2 10 ≤ 999 := hS.1.2.2.1
  have e6 := hw.2.2.2.2 6 (by decide) (by decide)
  have e7 := hw.2.2.2.2 7 (by decide) (by decide)
  have e8 := hw.2.2.2.2 8 (by decide) (by decide)
  have e9 := hw.2.2.2.2 9 (by decide) (by decide)
  have e10 := hw.2.2.2.2 10 (by decide) (by decide)
  refine gx_K.of' (lv := [(0, _), (1, _), (2, _), (3, _)]) (by decide) rfl (by decide) (Nat.le_of_ble_eq_true rfl) rfl ?_
  refine J_aload_n (i := 0) (n := 1) dX6_drop_0 rfl rfl rfl ?_
  refine J_iload_n (i := 1) (n := 2) dX6_drop_1 rfl rfl rfl ?_
  refine J_callVr (n := 5) wS_X6_isGlove (c_isGlove (d + 10) g hw hO ⟨rfl, rfl⟩) dX6_drop_2 wm_X6_121 ⟨wM_X6_isGlove, wV_X6_isGlove⟩ rfl (T_recv (by decide) (by first | assumption | decide)) rfl rfl (Nat.le_of_ble_eq_true rfl) rfl ?_
  refine J_if_eq (tgt := 25) (n := 8) dX6_drop_5 (by decide) rfl (fun c_5 => ?_) (fun c_5 => ?_)
  · refine J_iconst (n := 26) dX6_drop_25 kI_m1 rfl ?_
    refine J_iret dX6_drop_26 rfl (kN_i _) ?_
    unfold sp_drop at hq
    rw [if_neg (by
      first
      | (rw [nb_0] at c_5; rw [show isG S g = false from c_5, Bool.false_and]; decide)
      | (rw [nb_0] at c_14; rw [c_14, Bool.false_and, Bool.and_false]; decide)
      | (rw [nb_0] at c_22; rw [c_22, Bool.and_false, Bool.and_false]; decide))] at hq
    exact hq σ hc rfl
  · refine J_iload_n (i := 2) (n := 9) dX6_drop_8 rfl rfl rfl ?_
    refine J_bipush (n := 11) dX6_drop_9 kB_60 rfl ?_
    refine J_callSr (n := 14) wS_X6_isWithin (c_isWithin (d + 11) x 60 ⟨rfl, rfl⟩) dX6_drop_11 wm_X6_51 wT_X6_isWithin rfl rfl (Nat.le_of_ble_eq_true rfl) rfl ?_
    refine J_if_eq (tgt := 25) (n := 17) dX6_drop_14 (by decide) rfl (fun c_14 => ?_) (fun c_14 => ?_)
    · refine J_iconst (n := 26) dX6_drop_25 kI_m1 rfl ?_
      refine J_iret dX6_drop_26 rfl (kN_i _) ?_
      unfold sp_drop at hq
      rw [if_neg (by
        first
        | (rw [nb_0] at c_5; rw [show isG S g = false from c_5, Bool.false_and]; decide)
        | (rw [nb_0] at c_14; rw [c_14, Bool.false_and, Bool.and_false]; decide)
        | (rw [nb_0] at c_22; rw [c_22, Bool.and_false, Bool.and_false]; decide))] at hq
      exact hq σ hc rfl
    · refine J_iload_n (i := 3) (n := 18) dX6_drop_17 rfl rfl rfl ?_
      refine J_iconst (n := 19) dX6_drop_18 kI_1 rfl ?_
      refine J_callSr (n := 22) wS_X6_isWithin (c_isWithin (d + 11) w 1 ⟨rfl, rfl⟩) dX6_drop_19 wm_X6_51 wT_X6_isWithin rfl rfl (Nat.le_of_ble_eq_true rfl) rfl ?_
      refine J_if_ne (tgt := 27) (n := 25) dX6_drop_22 (by decide) rfl (fun c_22 => ?_) (fun c_22 => ?_)
      · rw [nb_t] at c_5 c_14 c_22
        unfold sp_drop at hq
        rw [if_pos (by rw [show isG S g = true from c_5, c_14, c_22]; rfl)] at hq
        obtain ⟨j, hj, rfl⟩ := isG_of (S := S) c_5 hO
        obtain ⟨n, hn60, rfl⟩ := ix_of c_14 (by decide)
        rw [nat_nI (by omega), nat_nI (by omega)] at hq
        refine J_aload_n (i := 0) (n := 28) dX6_drop_27 rfl rfl rfl ?_
        refine T_getO (k := 0) (n := 31) wk_X6 dX6_drop_28 wf_X6_10 (by decide) (by first | assumption | decide) rfl rfl ?_
        refine J_iload_n (i := 1) (n := 32) dX6_drop_31 rfl rfl rfl ?_
        refine J_callVr (n := 35) wS_X5_isPaired (c_W_isPaired (d + 11) (by decide) hw (by omega) ⟨rfl, rfl⟩) dX6_drop_32 wm_X6_129 ⟨wM_X5_isPaired, wV_X5_isPaired⟩ rfl (T_recv (by decide) (by first | assumption | decide)) rfl rfl (Nat.le_of_ble_eq_true rfl) rfl ?_
        refine J_if_eq (tgt := 41) (n := 38) dX6_drop_35 (by decide) rfl (fun c_35 => ?_) (fun c_35 => ?_)
        · refine J_aload_n (i := 0) (n := 42) dX6_drop_41 rfl rfl rfl ?_
          refine J_iload_n (i := 1) (n := 43) dX6_drop_42 rfl rfl rfl ?_
          refine J_iconst (n := 44) dX6_drop_43 kI_1 rfl ?_
          refine J_iload_n (i := 2) (n := 45) dX6_drop_44 rfl rfl rfl ?_
          refine J_iload_n (i := 3) (n := 46) dX6_drop_45 rfl rfl rfl ?_
          refine J_callVx (n := 49) wS_X6_mostNamedPart (K_eta 5 1 (c_G_mostNamedPart (Q := fun r h => r = some (.int (aq (jqs (fun z => nb S.1.1 (pw_a S.1.1 (1 + 1) j z) n) (11 + 1)) w)) ∧ ∃ t2, h = hp G (gs_set σ 5 1 t2)) (d + 5) (k := 1) (B := 11) w hw hO hj (by decide) (by omega) (fun t2 => ⟨rfl, t2, rfl⟩))) dX6_drop_46 wm_X6_191 ⟨wM_X6_mostNamedPart, wV_X6_mostNamedPart⟩ rfl (T_recv (by decide) (by first | assumption | decide)) rfl rfl (Nat.le_of_ble_eq_true rfl) rfl (fun r h1 hq1 => ?_)
          obtain ⟨rfl, t2, rfl⟩ := hq1
          refine J_iret dX6_drop_49 rfl (kN_i _) ?_
          rw [nb_0] at c_35
          rw [if_neg (by rw [c_35]; decide)] at hq
          exact hq _ (hc.scr1 (c := 5) (i := 1) (Or.inl ⟨rfl, by decide, by decide⟩)) (gs_neC (by decide))
        · refine J_bipush (n := 40) dX6_drop_38 kB_m2 rfl ?_
          refine J_iret dX6_drop_40 rfl (kN_i _) ?_
          rw [nb_t] at c_35
          rw [if_pos c_35] at hq
          exact hq σ hc rfl
      · refine J_iconst (n := 26) dX6_drop_25 kI_m1 rfl ?_
        refine J_iret dX6_drop_26 rfl (kN_i _) ?_
        unfold sp_drop at hq
        rw [if_neg (by
          first
          | (rw [nb_0] at c_5; rw [show isG S g = false from c_5, Bool.false_and]; decide)
          | (rw [nb_0] at c_14; rw [c_14, Bool.false_and, Bool.and_false]; decide)
          | (rw [nb_0] at c_22; rw [c_22, Bool.and_false, Bool.and_false]; decide))] at hq
        exact hq σ hc rfl

