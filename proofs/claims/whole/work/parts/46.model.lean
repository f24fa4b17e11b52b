theorem fp_s (T : (Nat → Bool) → Bool) (p : pw) (k d : Nat) : fp T p (k + 1) d = if T p.2.1 = true then nI d else fp T (pw_day p (pw_next p)) k (d + 1) := rfl
set_option maxHeartbeats 4000000 in
set_option maxRecDepth 100000 in
theorem c_N_ahead {G : gx_G} {σ : gs_S} {Q : Option Value → gx_Hp → Prop} {S : pS} {v : gs_Ob} (d : Nat) (g x w : Int32) (hS : SOk S) (hm : mR v S) (hq : ∀ v1, mR v1 S → Q (some (.int (sp_ahead S g x w))) (hp G (gs_set σ 7 0 v1))) : gx_K G yX7_ahead mX7_ahead (d + 12) 0 0 [.ref (gs_a G 7 0 0), .int g, .int x, .int w] (hp G (gs_set σ 7 0 v)) Q := by
  obtain ⟨⟨ha, hsn, hgl⟩, hkm, htp, hft, hsh⟩ := id hm
  have hO := hS.1.1
  have hB := hO.aB
  have h4 : S.1.1.2.2 6 ≤ 4 := hO.2.2.2.2.1
  have h6 : S.1.1.2.2 7 ≤ 6 := hO.2.2.2.2.2.1
  have hm11 : S.1.1.2.2 8 ≤ 11 := hO.2.2.2.2.2.2.1
  have hn9 : S.1.1.2.2 9 ≤ 9999 := hO.2.2.2.2.2.2.2
  have hd9 : S.1.1.2.2 10 ≤ 999 := hS.1.2.2.1
  have h160 : S.2.2.2.1.2 ≤ 160 := hS.2.2.1.1
  have e28 := ha.2.2.2.1
  have e29 := ha.2.2.2.2.1
  have e36 := ha.2.2.2.2.2.1
  have e37 := ha.2.2.2.2.2.2
  have g0 : gs_set σ 7 0 v 7 0 = v := gs_same _ _ _ _
  have hgl0 : (gs_set σ 7 0 v 7 0).2.1 3 = nI (S.1.1.2.2 6) := by rw [g0]; exact hgl
  have ha0 : aR ((gs_set σ 7 0 v 7 0).1 0) S.1.1 := by rw [g0]; exact ha
  refine gx_K.of' (lv := [(0, _), (1, _), (2, _), (3, _)]) (by decide) rfl (by decide) (Nat.le_of_ble_eq_true rfl) rfl ?_
  refine J_aload_n (i := 0) (n := 1) dX7_ahead_0 rfl rfl rfl ?_
  refine J_iload_n (i := 1) (n := 2) dX7_ahead_1 rfl rfl rfl ?_
  refine J_callVr (n := 5) wS_X7_isGlove (c_M_isGlove (d + 10) g (S.1.1.2.2 6) hgl0 (by omega) ⟨rfl, rfl⟩) dX7_ahead_2 wm_X7_210 ⟨wM_X7_isGlove, wV_X7_isGlove⟩ rfl (T_recv (by decide) (by first | assumption | decide)) rfl rfl (Nat.le_of_ble_eq_true rfl) rfl ?_
  refine J_if_eq (tgt := 22) (n := 8) dX7_ahead_5 (by decide) rfl (fun c_5 => ?_) (fun c_5 => ?_)
  · refine J_iconst (n := 23) dX7_ahead_22 kI_m1 rfl ?_
    refine J_iret dX7_ahead_23 rfl (kN_i _) ?_
    unfold sp_ahead at hq
    rw [if_neg (by
      first
      | (rw [nb_0] at c_5; rw [show isG S g = false from c_5, Bool.false_and]; decide)
      | (rw [nb_0] at c_12; rw [c_12, Bool.false_and, Bool.and_false]; decide)
      | (rw [nb_0] at c_19; rw [c_19, Bool.and_false, Bool.and_false]; decide))] at hq
    exact hq v hm
  · refine J_iload_n (i := 2) (n := 9) dX7_ahead_8 rfl rfl rfl ?_
    refine J_callSr (n := 12) wS_X7_isFar (c_M_isFar (d + 10) x ⟨rfl, rfl⟩) dX7_ahead_9 wm_X7_244 wT_X7_isFar rfl rfl (Nat.le_of_ble_eq_true rfl) rfl ?_
    refine J_if_eq (tgt := 22) (n := 15) dX7_ahead_12 (by decide) rfl (fun c_12 => ?_) (fun c_12 => ?_)
    · refine J_iconst (n := 23) dX7_ahead_22 kI_m1 rfl ?_
      refine J_iret dX7_ahead_23 rfl (kN_i _) ?_
      unfold sp_ahead at hq
      rw [if_neg (by
        first
        | (rw [nb_0] at c_5; rw [show isG S g = false from c_5, Bool.false_and]; decide)
        | (rw [nb_0] at c_12; rw [c_12, Bool.false_and, Bool.and_false]; decide)
        | (rw [nb_0] at c_19; rw [c_19, Bool.and_false, Bool.and_false]; decide))] at hq
      exact hq v hm
    · refine J_iload_n (i := 3) (n := 16) dX7_ahead_15 rfl rfl rfl ?_
      refine J_callSr (n := 19) wS_X7_isPart (c_M_isPart (d + 10) w ⟨rfl, rfl⟩) dX7_ahead_16 wm_X7_216 wT_X7_isPart rfl rfl (Nat.le_of_ble_eq_true rfl) rfl ?_
      refine J_if_ne (tgt := 24) (n := 22) dX7_ahead_19 (by decide) rfl (fun c_19 => ?_) (fun c_19 => ?_)
      · rw [nb_t] at c_5 c_12 c_19
        unfold sp_ahead at hq
        rw [if_pos (by rw [show isG S g = true from c_5, c_12, c_19]; rfl)] at hq
        obtain ⟨j, hj, rfl⟩ := isG_of (S := S) c_5 hO
        obtain ⟨n, hn60, rfl⟩ := ix_of c_12 (by decide)
        rw [nat_nI (by omega), nat_nI (by omega)] at hq
        refine J_aload_n (i := 0) (n := 25) dX7_ahead_24 rfl rfl rfl ?_
        refine J_callVx (n := 28) wS_X7_starts (c_M_starts (Q := fun r h => r = none ∧ ∃ v2, mN v2 S.1.1 ∧ mF v v2 ∧ h = hp G (gs_set σ 7 0 v2)) (d + 11) (fun v2 k1 _ k3 k4 => ⟨rfl, v2, ⟨hm.1.1.ext hB k1, by rw [k4]; exact hm.1.2.2⟩, ⟨k3, k4, k1⟩, rfl⟩)) dX7_ahead_25 wm_X7_201 ⟨wM_X7_starts, wV_X7_starts⟩ rfl (T_recv (by decide) (by first | assumption | decide)) rfl rfl (Nat.le_of_ble_eq_true rfl) rfl (fun r h1 hq1 => ?_)
        obtain ⟨rfl, v2, hN2, hF2, rfl⟩ := hq1
        refine J_aload_n (i := 0) (n := 29) dX7_ahead_28 rfl rfl rfl ?_
        refine J_iload_n (i := 2) (n := 30) dX7_ahead_29 rfl rfl rfl ?_
        refine J_callVx (n := 33) wS_X7_daysGo (c_M_daysGo (Q := fun r h => r = none ∧ ∃ v4, mN v4 (pw_days (S.1.1) n) ∧ mE v2 v4 ∧ h = hp G (gs_set σ 7 0 v4)) (d + 5) (n := n) hN2 hO (by omega) (fun v4 k1 k2 => ⟨rfl, v4, k1, k2, rfl⟩)) dX7_ahead_30 wm_X7_188 ⟨wM_X7_daysGo, wV_X7_daysGo⟩ rfl (T_recv (by decide) (by first | assumption | decide)) rfl rfl (Nat.le_of_ble_eq_true rfl) rfl (fun r h1 hq1 => ?_)
        obtain ⟨rfl, v4, hN4, hE4, rfl⟩ := hq1
        have hN0 : mN (gs_set σ 7 0 v4 7 0) (pw_days S.1.1 n) := by rw [gs_same]; exact hN4
        have e6n : (pw_days S.1.1 n).2.2 6 = S.1.1.2.2 6 := pw_days_f _ _ _ (by decide) (by decide) (by decide)
        have hm4 : mR v4 S := (hm.f hF2).e hE4
        refine J_iload_n (i := 3) (n := 34) dX7_ahead_33 rfl rfl rfl ?_
        refine J_if_ne (tgt := 45) (n := 37) dX7_ahead_34 (by decide) rfl (fun c_34 => ?_) (fun c_34 => ?_)
        · refine J_aload_n (i := 0) (n := 46) dX7_ahead_45 rfl rfl rfl ?_
          refine J_iload_n (i := 1) (n := 47) dX7_ahead_46 rfl rfl rfl ?_
          refine J_iconst (n := 48) dX7_ahead_47 kI_2 rfl ?_
          refine J_callVr (n := 51) wS_X7_of (c_M_of (d + 11) (by omega) (by decide) ⟨rfl, rfl⟩) dX7_ahead_48 wm_X7_154 ⟨wM_X7_of, wV_X7_of⟩ rfl (T_recv (by decide) (by first | assumption | decide)) rfl rfl (Nat.le_of_ble_eq_true rfl) rfl ?_
          refine J_iret dX7_ahead_51 rfl (kN_i _) ?_
          first
          | (rw [if_pos c_34] at hq; exact hq _ hm4)
          | (rw [if_neg c_34] at hq
             rw [show (gs_set σ 7 0 v4 7 0).1 1 (12 + 4 * j + 2) = nI ((pw_days S.1.1 n).1 3 j) from (hN0.1.2.1 j (by rw [e6n]; exact hj)).2.2.1]
             exact hq _ hm4)
        · refine J_aload_n (i := 0) (n := 38) dX7_ahead_37 rfl rfl rfl ?_
          refine J_iload_n (i := 1) (n := 39) dX7_ahead_38 rfl rfl rfl ?_
          refine J_callVr (n := 42) wS_X7_doorOf (c_M_doorOf (d + 9) hN0 (pw_days_ok hO n).aB (by rw [e6n]; exact hj) (fun q => coh_days hS.1.2.1 n j (by rw [e6n]; exact hj) q) ⟨rfl, rfl⟩) dX7_ahead_39 wm_X7_160 ⟨wM_X7_doorOf, wV_X7_doorOf⟩ rfl (T_recv (by decide) (by first | assumption | decide)) rfl rfl (Nat.le_of_ble_eq_true rfl) rfl ?_
          refine J_goto (tgt := 51) dX7_ahead_42 (by decide) ?_
          refine J_iret dX7_ahead_51 rfl (kN_i _) ?_
          first
          | (rw [if_pos c_34] at hq; exact hq _ hm4)
          | (rw [if_neg c_34] at hq
             rw [show (gs_set σ 7 0 v4 7 0).1 1 (12 + 4 * j + 2) = nI ((pw_days S.1.1 n).1 3 j) from (hN0.1.2.1 j (by rw [e6n]; exact hj)).2.2.1]
             exact hq _ hm4)
      · refine J_iconst (n := 23) dX7_ahead_22 kI_m1 rfl ?_
        refine J_iret dX7_ahead_23 rfl (kN_i _) ?_
        unfold sp_ahead at hq
        rw [if_neg (by
          first
          | (rw [nb_0] at c_5; rw [show isG S g = false from c_5, Bool.false_and]; decide)
          | (rw [nb_0] at c_12; rw [c_12, Bool.false_and, Bool.and_false]; decide)
          | (rw [nb_0] at c_19; rw [c_19, Bool.and_false, Bool.and_false]; decide))] at hq
        exact hq v hm

set_option maxHeartbeats 4000000 in
set_option maxRecDepth 100000 in
theorem c_N_meets {G : gx_G} {σ : gs_S} {Q : Option Value → gx_Hp → Prop} {S : pS} {v : gs_Ob} (d : Nat) (g : Int32) (hS : SOk S) (hm : mR v S) (hq : ∀ v1, mR v1 S → Q (some (.int (sp_meets S g))) (hp G (gs_set σ 7 0 v1))) : gx_K G yX7_meets mX7_meets (d + 12) 0 0 [.ref (gs_a G 7 0 0), .int g] (hp G (gs_set σ 7 0 v)) Q := by
  obtain ⟨⟨ha, hsn, hgl⟩, hkm, htp, hft, hsh⟩ := id hm
  have hO := hS.1.1
  have hB := hO.aB
  have h4 : S.1.1.2.2 6 ≤ 4 := hO.2.2.2.2.1
  have h6 : S.1.1.2.2 7 ≤ 6 := hO.2.2.2.2.2.1
  have hm11 : S.1.1.2.2 8 ≤ 11 := hO.2.2.2.2.2.2.1
  have hn9 : S.1.1.2.2 9 ≤ 9999 := hO.2.2.2.2.2.2.2
  have hd9 : S.1.1.2.2 10 ≤ 999 := hS.1.2.2.1
  have h160 : S.2.2.2.1.2 ≤ 160 := hS.2.2.1.1
  have e28 := ha.2.2.2.1
  have e29 := ha.2.2.2.2.1
  have e36 := ha.2.2.2.2.2.1
  have e37 := ha.2.2.2.2.2.2
  have g0 : gs_set σ 7 0 v 7 0 = v := gs_same _ _ _ _
  have hgl0 : (gs_set σ 7 0 v 7 0).2.1 3 = nI (S.1.1.2.2 6) := by rw [g0]; exact hgl
  have ha0 : aR ((gs_set σ 7 0 v 7 0).1 0) S.1.1 := by rw [g0]; exact ha
  refine gx_K.of' (lv := [(0, _), (1, _)]) (by decide) rfl (by decide) (Nat.le_of_ble_eq_true rfl) rfl ?_
  refine J_aload_n (i := 0) (n := 1) dX7_meets_0 rfl rfl rfl ?_
  refine J_iload_n (i := 1) (n := 2) dX7_meets_1 rfl rfl rfl ?_
  refine J_callVr (n := 5) wS_X7_isGlove (c_M_isGlove (d + 10) g (S.1.1.2.2 6) hgl0 (by omega) ⟨rfl, rfl⟩) dX7_meets_2 wm_X7_210 ⟨wM_X7_isGlove, wV_X7_isGlove⟩ rfl (T_recv (by decide) (by first | assumption | decide)) rfl rfl (Nat.le_of_ble_eq_true rfl) rfl ?_
  refine J_if_ne (tgt := 10) (n := 8) dX7_meets_5 (by decide) rfl (fun c_5 => ?_) (fun c_5 => ?_)
  · rw [nb_t] at c_5
    unfold sp_meets at hq
    rw [if_pos (show isG S g = true from c_5)] at hq
    obtain ⟨j, hj, rfl⟩ := isG_of (S := S) c_5 hO
    rw [nat_nI (by omega)] at hq
    obtain ⟨k3, a11, w20⟩ := hO.2.1 j hj
    refine J_aload_n (i := 0) (n := 11) dX7_meets_10 rfl rfl rfl ?_
    refine J_callVx (n := 14) wS_X7_starts (c_M_starts (Q := fun r h => r = none ∧ ∃ v2, mN v2 S.1.1 ∧ mF v v2 ∧ h = hp G (gs_set σ 7 0 v2)) (d + 11) (fun v2 k1 _ k3 k4 => ⟨rfl, v2, ⟨hm.1.1.ext hB k1, by rw [k4]; exact hm.1.2.2⟩, ⟨k3, k4, k1⟩, rfl⟩)) dX7_meets_11 wm_X7_201 ⟨wM_X7_starts, wV_X7_starts⟩ rfl (T_recv (by decide) (by first | assumption | decide)) rfl rfl (Nat.le_of_ble_eq_true rfl) rfl (fun r h1 hq1 => ?_)
    obtain ⟨rfl, v2, hN2, hF2, rfl⟩ := hq1
    refine J_iconst (n := 15) dX7_meets_14 kI_0 rfl ?_
    refine J_istore_n (i := 2) (n := 16) (lv' := [(0, _), (1, _), (2, _)]) dX7_meets_15 rfl (by decide) rfl rfl ?_
    have loop : ∀ u k v1, 61 - k < u → k ≤ 61 → mR v1 S → mN v1 (pw_days S.1.1 k) → fp (Tg j) S.1.1 61 0 = fp (Tg j) (pw_days S.1.1 k) (61 - k) k → gx_J G mX7_meets (d + 12) 0 0 Q 16 [(0, .ref (gs_a G 7 0 0)), (1, .int (nI j)), (2, .int (nI k))] [] (hp G (gs_set σ 7 0 v1)) := by
      intro u
      induction u with
      | zero => intros; exact absurd (by assumption) (Nat.not_lt_zero _)
      | succ u ih =>
        intro k v1 hu hk hm1 hN1 hfp
        refine J_iload_n (i := 2) (n := 17) dX7_meets_16 rfl rfl rfl ?_
        refine J_bipush (n := 19) dX7_meets_17 kB_60 rfl ?_
        refine J_icmp_gt (tgt := 43) (n := 22) dX7_meets_19 (by decide) rfl (fun c_19 => ?_) (fun c_19 => ?_)
        · refine J_bipush (n := 45) dX7_meets_43 kB_m4 rfl ?_
          refine J_iret dX7_meets_45 rfl (kN_i _) ?_
          rw [nI_ltI (by omega) (by omega)] at c_19
          have ek : k = 61 := by omega
          subst ek
          rw [hfp] at hq
          exact hq _ hm1
        · rw [nI_ltI (by omega) (by omega)] at c_19
          have ek : 61 - k = (60 - k) + 1 := by omega
          rw [ek, fp_s _ (pw_days S.1.1 k)] at hfp
          have hN0 : mN (gs_set σ 7 0 v1 7 0) (pw_days S.1.1 k) := by rw [gs_same]; exact hN1
          have e6n : (pw_days S.1.1 k).2.2 6 = S.1.1.2.2 6 := pw_days_f _ _ _ (by decide) (by decide) (by decide)
          refine J_aload_n (i := 0) (n := 23) dX7_meets_22 rfl rfl rfl ?_
          refine J_iload_n (i := 1) (n := 24) dX7_meets_23 rfl rfl rfl ?_
          refine J_callVr (n := 27) wS_X7_isPaired (c_M_isPaired (d + 10) hN0 (pw_days_ok hO k).aB (by rw [e6n]; exact hj) ⟨rfl, rfl⟩) dX7_meets_24 wm_X7_157 ⟨wM_X7_isPaired, wV_X7_isPaired⟩ rfl (T_recv (by decide) (by first | assumption | decide)) rfl rfl (Nat.le_of_ble_eq_true rfl) rfl ?_
          refine J_if_eq (tgt := 32) (n := 30) dX7_meets_27 (by decide) rfl (fun c_27 => ?_) (fun c_27 => ?_)
          · refine J_aload_n (i := 0) (n := 33) dX7_meets_32 rfl rfl rfl ?_
            refine J_iconst (n := 34) dX7_meets_33 kI_1 rfl ?_
            refine J_callVx (n := 37) wS_X7_daysGo (c_M_daysGo (Q := fun r h => r = none ∧ ∃ v4, mN v4 (pw_days (pw_days S.1.1 k) 1) ∧ mE v1 v4 ∧ h = hp G (gs_set σ 7 0 v4)) (d + 5) (n := 1) hN1 (pw_days_ok hO k) (by rw [pw_days_day]; omega) (fun v4 k1 k2 => ⟨rfl, v4, k1, k2, rfl⟩)) dX7_meets_34 wm_X7_188 ⟨wM_X7_daysGo, wV_X7_daysGo⟩ rfl (T_recv (by decide) (by first | assumption | decide)) rfl rfl (Nat.le_of_ble_eq_true rfl) rfl (fun r h1 hq1 => ?_)
            obtain ⟨rfl, v4, hN4, hE4, rfl⟩ := hq1
            have hc0 : Tg j (pw_days S.1.1 k).2.1 = false := (nb_0 _).mp c_27
            rw [hc0, if_neg (by decide)] at hfp
            refine J_inc (i := 2) (n := 40) (lv' := [(0, _), (1, _), (2, _)]) dX7_meets_37 rfl (by decide) rfl rfl ?_
            refine J_goto (tgt := 16) dX7_meets_40 (by decide) ?_
            exact ih (k + 1) v4 (by omega) (by omega) (hm1.e hE4) (by rw [pw_days_add]; exact hN4) (by rw [hfp, pw_days_succ]; congr 1; omega)
          · refine J_iload_n (i := 2) (n := 31) dX7_meets_30 rfl rfl rfl ?_
            refine J_iret dX7_meets_31 rfl (kN_i _) ?_
            have hc0 : Tg j (pw_days S.1.1 k).2.1 = true := (nb_t _).mp c_27
            rw [if_pos hc0] at hfp
            rw [hfp] at hq
            exact hq _ hm1
    exact loop 62 0 v2 (by omega) (by omega) (hm.f hF2) hN2 rfl
  · refine J_iconst (n := 9) dX7_meets_8 kI_m1 rfl ?_
    refine J_iret dX7_meets_9 rfl (kN_i _) ?_
    rw [nb_0] at c_5
    unfold sp_meets at hq
    rw [if_neg (by rw [show isG S g = false from c_5]; decide)] at hq
    exact hq v hm

set_option maxHeartbeats 4000000 in
set_option maxRecDepth 100000 in
theorem c_N_need {G : gx_G} {σ : gs_S} {Q : Option Value → gx_Hp → Prop} {S : pS} {v : gs_Ob} (d : Nat) (g x : Int32) (hS : SOk S) (hm : mR v S) (hq : ∀ v1, mR v1 S → Q (some (.int (sp_need S g x))) (hp G (gs_set σ 7 0 v1))) : gx_K G yX7_need mX7_need (d + 12) 0 0 [.ref (gs_a G 7 0 0), .int g, .int x] (hp G (gs_set σ 7 0 v)) Q := by
  obtain ⟨⟨ha, hsn, hgl⟩, hkm, htp, hft, hsh⟩ := id hm
  have hO := hS.1.1
  have hB := hO.aB
  have h4 : S.1.1.2.2 6 ≤ 4 := hO.2.2.2.2.1
  have h6 : S.1.1.2.2 7 ≤ 6 := hO.2.2.2.2.2.1
  have hm11 : S.1.1.2.2 8 ≤ 11 := hO.2.2.2.2.2.2.1
  have hn9 : S.1.1.2.2 9 ≤ 9999 := hO.2.2.2.2.2.2.2
  have hd9 : S.1.1.2.2 10 ≤ 999 := hS.1.2.2.1
  have h160 : S.2.2.2.1.2 ≤ 160 := hS.2.2.1.1
  have e28 := ha.2.2.2.1
  have e29 := ha.2.2.2.2.1
  have e36 := ha.2.2.2.2.2.1
  have e37 := ha.2.2.2.2.2.2
  have g0 : gs_set σ 7 0 v 7 0 = v := gs_same _ _ _ _
  have hgl0 : (gs_set σ 7 0 v 7 0).2.1 3 = nI (S.1.1.2.2 6) := by rw [g0]; exact hgl
  have ha0 : aR ((gs_set σ 7 0 v 7 0).1 0) S.1.1 := by rw [g0]; exact ha
  refine gx_K.of' (lv := [(0, _), (1, _), (2, _)]) (by decide) rfl (by decide) (Nat.le_of_ble_eq_true rfl) rfl ?_
  refine J_aload_n (i := 0) (n := 1) dX7_need_0 rfl rfl rfl ?_
  refine J_iload_n (i := 1) (n := 2) dX7_need_1 rfl rfl rfl ?_
  refine J_callVr (n := 5) wS_X7_isGlove (c_M_isGlove (d + 10) g (S.1.1.2.2 6) hgl0 (by omega) ⟨rfl, rfl⟩) dX7_need_2 wm_X7_210 ⟨wM_X7_isGlove, wV_X7_isGlove⟩ rfl (T_recv (by decide) (by first | assumption | decide)) rfl rfl (Nat.le_of_ble_eq_true rfl) rfl ?_
  refine J_if_eq (tgt := 15) (n := 8) dX7_need_5 (by decide) rfl (fun c_5 => ?_) (fun c_5 => ?_)
  · refine J_iconst (n := 16) dX7_need_15 kI_m1 rfl ?_
    refine J_iret dX7_need_16 rfl (kN_i _) ?_
    unfold sp_need at hq
    rw [if_neg (by
      first
      | (rw [nb_0] at c_5; rw [show isG S g = false from c_5, Bool.false_and]; decide)
      | (rw [nb_0] at c_12; rw [c_12, Bool.and_false]; decide))] at hq
    exact hq v hm
  · refine J_iload_n (i := 2) (n := 9) dX7_need_8 rfl rfl rfl ?_
    refine J_callSr (n := 12) wS_X7_isFar (c_M_isFar (d + 10) x ⟨rfl, rfl⟩) dX7_need_9 wm_X7_244 wT_X7_isFar rfl rfl (Nat.le_of_ble_eq_true rfl) rfl ?_
    refine J_if_ne (tgt := 17) (n := 15) dX7_need_12 (by decide) rfl (fun c_12 => ?_) (fun c_12 => ?_)
    · rw [nb_t] at c_5 c_12
      unfold sp_need at hq
      rw [if_pos (by rw [show isG S g = true from c_5, c_12]; rfl)] at hq
      obtain ⟨j, hj, rfl⟩ := isG_of (S := S) c_5 hO
      obtain ⟨n, hn60, rfl⟩ := ix_of c_12 (by decide)
      rw [nat_nI (by omega), nat_nI (by omega)] at hq
      refine J_iconst (n := 18) dX7_need_17 kI_0 rfl ?_
      refine J_istore_n (i := 3) (n := 19) (lv' := [(0, _), (1, _), (2, _), (3, _)]) dX7_need_18 rfl (by decide) rfl rfl ?_
      have loop : ∀ u k v1, 21 - k < u → k ≤ 21 → mR v1 S → (∀ i, i < k → (pw_days (pw_a S.1.1 3 j i) n).2.1 j = false) → gx_J G mX7_need (d + 12) 0 0 Q 19 [(0, .ref (gs_a G 7 0 0)), (1, .int (nI j)), (2, .int (nI n)), (3, .int (nI k))] [] (hp G (gs_set σ 7 0 v1)) := by
        intro u
        induction u with
        | zero => intros; exact absurd (by assumption) (Nat.not_lt_zero _)
        | succ u ih =>
          intro k v1 hu hk hm1 hno
          refine J_iload_n (i := 3) (n := 20) dX7_need_19 rfl rfl rfl ?_
          refine J_bipush (n := 22) dX7_need_20 kB_20 rfl ?_
          refine J_icmp_gt (tgt := 57) (n := 25) dX7_need_22 (by decide) rfl (fun c_22 => ?_) (fun c_22 => ?_)
          · refine J_bipush (n := 59) dX7_need_57 kB_m4 rfl ?_
            refine J_iret dX7_need_59 rfl (kN_i _) ?_
            rw [nI_ltI (by omega) (by omega)] at c_22
            have ek : k = 21 := by omega
            subst ek
            rw [need_none hj hno] at hq
            exact hq _ hm1
          · rw [nI_ltI (by omega) (by omega)] at c_22
            refine J_aload_n (i := 0) (n := 26) dX7_need_25 rfl rfl rfl ?_
            refine J_callVx (n := 29) wS_X7_starts (c_M_starts (Q := fun r h => r = none ∧ ∃ v2, mN v2 S.1.1 ∧ mF v1 v2 ∧ h = hp G (gs_set σ 7 0 v2)) (d + 11) (fun v2 k1 _ k3 k4 => ⟨rfl, v2, ⟨hm1.1.1.ext hB k1, by rw [k4]; exact hm1.1.2.2⟩, ⟨k3, k4, k1⟩, rfl⟩)) dX7_need_26 wm_X7_201 ⟨wM_X7_starts, wV_X7_starts⟩ rfl (T_recv (by decide) (by first | assumption | decide)) rfl rfl (Nat.le_of_ble_eq_true rfl) rfl (fun r h1 hq1 => ?_)
            obtain ⟨rfl, v2, hN2, hF2, rfl⟩ := hq1
            refine J_aload_n (i := 0) (n := 30) dX7_need_29 rfl rfl rfl ?_
            refine J_iload_n (i := 1) (n := 31) dX7_need_30 rfl rfl rfl ?_
            refine J_iconst (n := 32) dX7_need_31 kI_2 rfl ?_
            refine J_iload_n (i := 3) (n := 33) dX7_need_32 rfl rfl rfl ?_
            refine J_callVv (n := 36) wS_X7_becomesOf (c_M_becomesOf (d + 11) (k := 2) _ (by omega) (by decide) ⟨rfl, rfl⟩) dX7_need_33 wm_X7_169 ⟨wM_X7_becomesOf, wV_X7_becomesOf⟩ rfl (T_recv (by decide) (by first | assumption | decide)) rfl rfl (Nat.le_of_ble_eq_true rfl) rfl ?_
            have hQ3 := mQ.w1 v2 (upd (v2.1 1) (12 + 4 * j + 2) (nI k))
            have hv3 : (gs_w v2 1 (upd (v2.1 1) (12 + 4 * j + 2) (nI k))).2 = v2.2 := rfl
            have hN3 : mN (gs_w v2 1 (upd (v2.1 1) (12 + 4 * j + 2) (nI k))) (pw_a S.1.1 3 j k) := ⟨by rw [gs_w1]; exact hN2.1.part hB (k := 2) k hj (by decide), hN2.2⟩
            generalize gs_w v2 1 (upd (v2.1 1) (12 + 4 * j + 2) (nI k)) = v3 at hQ3 hv3 hN3 ⊢
            refine J_aload_n (i := 0) (n := 37) dX7_need_36 rfl rfl rfl ?_
            refine J_iload_n (i := 2) (n := 38) dX7_need_37 rfl rfl rfl ?_
            refine J_callVx (n := 41) wS_X7_daysGo (c_M_daysGo (Q := fun r h => r = none ∧ ∃ v4, mN v4 (pw_days (pw_a S.1.1 3 j k) n) ∧ mE v3 v4 ∧ h = hp G (gs_set σ 7 0 v4)) (d + 5) (n := n) hN3 (pw_a_ok hO (by omega)) (show S.1.1.2.2 10 + n < 2 ^ 30 by omega) (fun v4 k1 k2 => ⟨rfl, v4, k1, k2, rfl⟩)) dX7_need_38 wm_X7_188 ⟨wM_X7_daysGo, wV_X7_daysGo⟩ rfl (T_recv (by decide) (by first | assumption | decide)) rfl rfl (Nat.le_of_ble_eq_true rfl) rfl (fun r h1 hq1 => ?_)
            obtain ⟨rfl, v4, hN4, hE4, rfl⟩ := hq1
            have hN0 : mN (gs_set σ 7 0 v4 7 0) (pw_days (pw_a S.1.1 3 j k) n) := by rw [gs_same]; exact hN4
            have e6n : (pw_days (pw_a S.1.1 3 j k) n).2.2 6 = S.1.1.2.2 6 := pw_days_f _ _ _ (by decide) (by decide) (by decide)
            have hm4 : mR v4 S := hm1.q ((hF2.q.tr hQ3).tr hE4.q)
            refine J_aload_n (i := 0) (n := 42) dX7_need_41 rfl rfl rfl ?_
            refine J_iload_n (i := 1) (n := 43) dX7_need_42 rfl rfl rfl ?_
            refine J_callVr (n := 46) wS_X7_isPaired (c_M_isPaired (d + 10) hN0 (pw_days_ok (pw_a_ok hO (by omega)) n).aB (by rw [e6n]; exact hj) ⟨rfl, rfl⟩) dX7_need_43 wm_X7_157 ⟨wM_X7_isPaired, wV_X7_isPaired⟩ rfl (T_recv (by decide) (by first | assumption | decide)) rfl rfl (Nat.le_of_ble_eq_true rfl) rfl ?_
            refine J_if_eq (tgt := 51) (n := 49) dX7_need_46 (by decide) rfl (fun c_46 => ?_) (fun c_46 => ?_)
            · refine J_inc (i := 3) (n := 54) (lv' := [(0, _), (1, _), (2, _), (3, _)]) dX7_need_51 rfl (by decide) rfl rfl ?_
              refine J_goto (tgt := 19) dX7_need_54 (by decide) ?_
              exact ih (k + 1) v4 (by omega) (by omega) hm4 (fun i hi => by
                rcases Nat.lt_or_ge i k with q | q
                · exact hno i q
                · have eq : i = k := by omega
                  subst eq
                  exact (nb_0 _).mp c_46)
            · refine J_iload_n (i := 3) (n := 50) dX7_need_49 rfl rfl rfl ?_
              refine J_iret dX7_need_50 rfl (kN_i _) ?_
              rw [need_hit hj (by omega) hno ((nb_t _).mp c_46)] at hq
              exact hq _ hm4
      exact loop 22 0 v (by omega) (by omega) hm (fun i hi => absurd hi (Nat.not_lt_zero _))
    · refine J_iconst (n := 16) dX7_need_15 kI_m1 rfl ?_
      refine J_iret dX7_need_16 rfl (kN_i _) ?_
      unfold sp_need at hq
      rw [if_neg (by
        first
        | (rw [nb_0] at c_5; rw [show isG S g = false from c_5, Bool.false_and]; decide)
        | (rw [nb_0] at c_12; rw [c_12, Bool.and_false]; decide))] at hq
      exact hq v hm

set_option maxHeartbeats 4000000 in
set_option maxRecDepth 100000 in
theorem c_N_runs {G : gx_G} {σ : gs_S} {Q : Option Value → gx_Hp → Prop} {S : pS} {v : gs_Ob} (d : Nat) (x w : Int32) (hS : SOk S) (hm : mR v S) (hq : ∀ v1, mR v1 S → Q (some (.int (sp_runs S x w))) (hp G (gs_set σ 7 0 v1))) : gx_K G yX7_runs mX7_runs (d + 12) 0 0 [.ref (gs_a G 7 0 0), .int x, .int w] (hp G (gs_set σ 7 0 v)) Q := by
  obtain ⟨⟨ha, hsn, hgl⟩, hkm, htp, hft, hsh⟩ := id hm
  have hO := hS.1.1
  have hB := hO.aB
  have h4 : S.1.1.2.2 6 ≤ 4 := hO.2.2.2.2.1
  have h6 : S.1.1.2.2 7 ≤ 6 := hO.2.2.2.2.2.1
  have hm11 : S.1.1.2.2 8 ≤ 11 := hO.2.2.2.2.2.2.1
  have hn9 : S.1.1.2.2 9 ≤ 9999 := hO.2.2.2.2.2.2.2
  have hd9 : S.1.1.2.2 10 ≤ 999 := hS.1.2.2.1
  have h160 : S.2.2.2.1.2 ≤ 160 := hS.2.2.1.1
  have e28 := ha.2.2.2.1
  have e29 := ha.2.2.2.2.1
  have e36 := ha.2.2.2.2.2.1
  have e37 := ha.2.2.2.2.2.2
  have g0 : gs_set σ 7 0 v 7 0 = v := gs_same _ _ _ _
  have hgl0 : (gs_set σ 7 0 v 7 0).2.1 3 = nI (S.1.1.2.2 6) := by rw [g0]; exact hgl
  have ha0 : aR ((gs_set σ 7 0 v 7 0).1 0) S.1.1 := by rw [g0]; exact ha
  refine gx_K.of' (lv := [(0, _), (1, _), (2, _)]) (by decide) rfl (by decide) (Nat.le_of_ble_eq_true rfl) rfl ?_
  refine J_iload_n (i := 1) (n := 1) dX7_runs_0 rfl rfl rfl ?_
  refine J_callSr (n := 4) wS_X7_isFar (c_M_isFar (d + 10) x ⟨rfl, rfl⟩) dX7_runs_1 wm_X7_244 wT_X7_isFar rfl rfl (Nat.le_of_ble_eq_true rfl) rfl ?_
  refine J_if_eq (tgt := 19) (n := 7) dX7_runs_4 (by decide) rfl (fun c_4 => ?_) (fun c_4 => ?_)
  · refine J_iconst (n := 20) dX7_runs_19 kI_m1 rfl ?_
    refine J_iret dX7_runs_20 rfl (kN_i _) ?_
    unfold sp_runs at hq
    rw [if_neg (by first | (rw [nb_0] at c_4; rw [c_4, Bool.false_and]; decide) | (rw [nb_0] at c_16; rw [c_16, Bool.and_false]; decide))] at hq
    exact hq v hm
  · refine J_iload_n (i := 2) (n := 8) dX7_runs_7 rfl rfl rfl ?_
    refine J_i2l (n := 9) dX7_runs_8 rfl ?_
    refine J_lconst (n := 10) dX7_runs_9 kL_0 rfl ?_
    refine J_ldc2 (n := 13) dX7_runs_10 wd_X7_247 rfl ?_
    refine J_callSr (n := 16) wS_X7_in (c_M_in (d + 11) w 4 (by decide) ⟨rfl, rfl⟩) dX7_runs_13 wm_X7_72 wT_X7_in rfl rfl (Nat.le_of_ble_eq_true rfl) rfl ?_
    refine J_if_ne (tgt := 21) (n := 19) dX7_runs_16 (by decide) rfl (fun c_16 => ?_) (fun c_16 => ?_)
    · rw [nb_t] at c_4 c_16
      unfold sp_runs at hq
      rw [if_pos (by rw [c_4, c_16]; rfl)] at hq
      obtain ⟨n, hn60, rfl⟩ := ix_of c_4 (by decide)
      rw [nat_nI (by omega)] at hq
      refine J_bipush (n := 23) dX7_runs_21 kB_m4 rfl ?_
      refine J_istore_n (i := 3) (n := 24) (lv' := [(0, _), (1, _), (2, _), (3, _)]) dX7_runs_23 rfl (by decide) rfl rfl ?_
      refine J_aload_n (i := 0) (n := 25) dX7_runs_24 rfl rfl rfl ?_
      refine J_callVx (n := 28) wS_X7_starts (c_M_starts (Q := fun r h => r = none ∧ ∃ v2, mN v2 S.1.1 ∧ mF v v2 ∧ h = hp G (gs_set σ 7 0 v2)) (d + 11) (fun v2 k1 _ k3 k4 => ⟨rfl, v2, ⟨hm.1.1.ext hB k1, by rw [k4]; exact hm.1.2.2⟩, ⟨k3, k4, k1⟩, rfl⟩)) dX7_runs_25 wm_X7_201 ⟨wM_X7_starts, wV_X7_starts⟩ rfl (T_recv (by decide) (by first | assumption | decide)) rfl rfl (Nat.le_of_ble_eq_true rfl) rfl (fun r h1 hq1 => ?_)
      obtain ⟨rfl, v2, hN2, hF2, rfl⟩ := hq1
      have hN0 : mN (gs_set σ 7 0 v2 7 0) S.1.1 := by rw [gs_same]; exact hN2
      refine J_aload_n (i := 0) (n := 29) dX7_runs_28 rfl rfl rfl ?_
      refine J_callVr (n := 32) wS_X7_pairedNow (c_M_pairedNow (d + 9) hN0 hO ⟨rfl, rfl⟩) dX7_runs_29 wm_X7_204 ⟨wM_X7_pairedNow, wV_X7_pairedNow⟩ rfl (T_recv (by decide) (by first | assumption | decide)) rfl rfl (Nat.le_of_ble_eq_true rfl) rfl ?_
      refine J_istore (i := 4) (n := 34) (lv' := [(0, _), (1, _), (2, _), (3, _), (4, _)]) dX7_runs_32 (by decide) rfl rfl ?_
      refine J_iconst (n := 35) dX7_runs_34 kI_1 rfl ?_
      refine J_istore (i := 5) (n := 37) (lv' := [(0, _), (1, _), (2, _), (3, _), (4, _), (5, _)]) dX7_runs_35 (by decide) rfl rfl ?_
      have loop : ∀ u k v1 r, n - k < u → k ≤ n → mR v1 S → mN v1 (pw_days S.1.1 k) → (r = -4 → fp (Tn S.1.1.2.1) S.1.1 (n + 1) 0 = fp (Tn S.1.1.2.1) (pw_day (pw_days S.1.1 k) (pw_next (pw_days S.1.1 k))) (n - k) (k + 1)) → (¬ r = -4 → fp (Tn S.1.1.2.1) S.1.1 (n + 1) 0 = r) → gx_J G mX7_runs (d + 12) 0 0 Q 37 [(0, .ref (gs_a G 7 0 0)), (1, .int (nI n)), (2, .int w), (3, .int r), (4, .int (nI (pw_bits S.1.1.2.1))), (5, .int (nI (k + 1)))] [] (hp G (gs_set σ 7 0 v1)) := by
        intro u
        induction u with
        | zero => intros; exact absurd (by assumption) (Nat.not_lt_zero _)
        | succ u ih =>
          intro k v1 r hu hk hm1 hN1 hr1 hr2
          refine J_iload (i := 5) (n := 39) dX7_runs_37 rfl rfl ?_
          refine J_iload_n (i := 1) (n := 40) dX7_runs_39 rfl rfl rfl ?_
          refine J_icmp_gt (tgt := 76) (n := 43) dX7_runs_40 (by decide) rfl (fun c_40 => ?_) (fun c_40 => ?_)
          · rw [nI_ltI (by omega) (by omega)] at c_40
            have ek : n = k := by omega
            subst ek
            have hR : fp (Tn S.1.1.2.1) S.1.1 (n + 1) 0 = r := by
              by_cases e : r = -4
              · rw [hr1 e, Nat.sub_self, e]; rfl
              · exact hr2 e
            have hNf : mN (gs_set σ 7 0 v1 7 0) (pw_days S.1.1 n) := by rw [gs_same]; exact hN1
            refine J_iload_n (i := 2) (n := 77) dX7_runs_76 rfl rfl rfl ?_
            by_cases e_77_0 : w = 0
            · rw [e_77_0]
              refine J_tableIn (off := 31) (tgt := 108) dX7_runs_77 (by decide) (by decide) (by decide) (by decide) ?_
              refine J_aload_n (i := 0) (n := 109) dX7_runs_108 rfl rfl rfl ?_
              refine J_callVr (n := 112) wS_X7_nameMore (c_M_nameMore (d + 11) hNf (n0 := S.1.1.2.2 9) (by rw [gs_same]; exact hm1.1.1.2.2.2.2.2.1) ⟨rfl, rfl⟩) dX7_runs_109 wm_X7_191 ⟨wM_X7_nameMore, wV_X7_nameMore⟩ rfl (T_recv (by decide) (by first | assumption | decide)) rfl rfl (Nat.le_of_ble_eq_true rfl) rfl ?_
              refine J_iret dX7_runs_112 rfl (kN_i _) ?_
              rw [e_77_0] at hq
              rw [if_neg (by decide +kernel), if_pos rfl] at hq
              exact hq _ hm1
            by_cases e_77_1 : w = 1
            · rw [e_77_1]
              refine J_tableIn (off := 36) (tgt := 113) dX7_runs_77 (by decide) (by decide) (by decide) (by decide) ?_
              refine J_aload_n (i := 0) (n := 114) dX7_runs_113 rfl rfl rfl ?_
              refine J_callVr (n := 117) wS_X7_pairedNow (c_M_pairedNow (d + 9) hNf (pw_days_ok hO n) ⟨rfl, rfl⟩) dX7_runs_114 wm_X7_204 ⟨wM_X7_pairedNow, wV_X7_pairedNow⟩ rfl (T_recv (by decide) (by first | assumption | decide)) rfl rfl (Nat.le_of_ble_eq_true rfl) rfl ?_
              refine J_iret dX7_runs_117 rfl (kN_i _) ?_
              rw [e_77_1] at hq
              rw [if_neg (by decide +kernel), if_neg (by decide +kernel), if_pos rfl] at hq
              exact hq _ hm1
            by_cases e_77_2 : w = 2
            · rw [e_77_2]
              refine J_tableIn (off := 41) (tgt := 118) dX7_runs_77 (by decide) (by decide) (by decide) (by decide) ?_
              refine J_aload_n (i := 0) (n := 119) dX7_runs_118 rfl rfl rfl ?_
              refine J_callVr (n := 122) wS_X7_coldNow (c_M_coldNow (d + 8) hNf (pw_days_ok hO n) ⟨rfl, rfl⟩) dX7_runs_119 wm_X7_207 ⟨wM_X7_coldNow, wV_X7_coldNow⟩ rfl (T_recv (by decide) (by first | assumption | decide)) rfl rfl (Nat.le_of_ble_eq_true rfl) rfl ?_
              refine J_iret dX7_runs_122 rfl (kN_i _) ?_
              rw [e_77_2] at hq
              rw [if_neg (by decide +kernel), if_neg (by decide +kernel), if_neg (by decide +kernel), if_pos rfl] at hq
              rw [pw_days_f _ _ 6 (by decide) (by decide) (by decide)]
              exact hq _ hm1
            by_cases e_77_3 : w = 3
            · rw [e_77_3]
              refine J_tableIn (off := 46) (tgt := 123) dX7_runs_77 (by decide) (by decide) (by decide) (by decide) ?_
              refine J_aload_n (i := 0) (n := 124) dX7_runs_123 rfl rfl rfl ?_
              refine T_get (k := 1) (n := 127) wk_X7 dX7_runs_124 wf_X7_13 (by decide) (by first | assumption | decide) rfl rfl ?_
              refine J_bipush (n := 129) dX7_runs_127 kB_28 rfl ?_
              refine T_iald (c := 7) (k := 1) (N := 57) (n := 130) dX7_runs_129 (by decide) (by first | assumption | decide) rfl (vp_in_nI (by decide) (by decide)) rfl ?_
              refine J_iret dX7_runs_130 rfl (kN_i _) ?_
              rw [e_77_3] at hq
              rw [if_neg (by decide +kernel), if_neg (by decide +kernel), if_neg (by decide +kernel), if_neg (by decide +kernel)] at hq
              rw [nI_clamp (by decide), show v1.1 1 28 = nI ((pw_days S.1.1 n).2.2 8) from hN1.1.2.2.2.1]
              exact hq _ hm1
            refine J_tableOut (tgt := 131) dX7_runs_77 (by have q_0 := lv_neT (a := 0) e_77_0 rfl; have q_1 := lv_neT (a := 1) e_77_1 rfl; have q_2 := lv_neT (a := 2) e_77_2 rfl; have q_3 := lv_neT (a := 3) e_77_3 rfl; omega) (by decide) ?_
            refine J_iload_n (i := 3) (n := 132) dX7_runs_131 rfl rfl rfl ?_
            refine J_iret dX7_runs_132 rfl (kN_i _) ?_
            obtain ⟨z, hz, rfl⟩ := ix_of c_16 (by decide)
            have z4 : z = 4 := by
              have q0 : z ≠ 0 := fun q => e_77_0 (by rw [q]; rfl)
              have q1 : z ≠ 1 := fun q => e_77_1 (by rw [q]; rfl)
              have q2 : z ≠ 2 := fun q => e_77_2 (by rw [q]; rfl)
              have q3 : z ≠ 3 := fun q => e_77_3 (by rw [q]; rfl)
              omega
            subst z4
            rw [if_pos (by decide +kernel), hR] at hq
            exact hq _ hm1
          · rw [nI_ltI (by omega) (by omega)] at c_40
            refine J_aload_n (i := 0) (n := 44) dX7_runs_43 rfl rfl rfl ?_
            refine J_iconst (n := 45) dX7_runs_44 kI_1 rfl ?_
            refine J_callVx (n := 48) wS_X7_daysGo (c_M_daysGo (Q := fun r h => r = none ∧ ∃ v4, mN v4 (pw_days (pw_days S.1.1 k) 1) ∧ mE v1 v4 ∧ h = hp G (gs_set σ 7 0 v4)) (d + 5) (n := 1) hN1 (pw_days_ok hO k) (by rw [pw_days_day]; omega) (fun v4 k1 k2 => ⟨rfl, v4, k1, k2, rfl⟩)) dX7_runs_45 wm_X7_188 ⟨wM_X7_daysGo, wV_X7_daysGo⟩ rfl (T_recv (by decide) (by first | assumption | decide)) rfl rfl (Nat.le_of_ble_eq_true rfl) rfl (fun r h1 hq1 => ?_)
            obtain ⟨rfl, v4, hN4, hE4, rfl⟩ := hq1
            have hN0 : mN (gs_set σ 7 0 v4 7 0) (pw_days (pw_days S.1.1 k) 1) := by rw [gs_same]; exact hN4
            have hmono : ∀ i, S.1.1.2.1 i = true → (pw_days (pw_days S.1.1 k) 1).2.1 i = true := fun i hi => pair_days 1 (pair_days k hi)
            have ed : pw_days (pw_days S.1.1 k) 1 = pw_days S.1.1 (k + 1) := (pw_days_add _ _ _).symm
            have ed2 : pw_day (pw_days S.1.1 k) (pw_next (pw_days S.1.1 k)) = pw_days S.1.1 (k + 1) := (pw_days_succ _ _).symm
            rw [ed2] at hr1
            have hm4 : mR v4 S := hm1.e hE4
            have enk : n - k = (n - (k + 1)) + 1 := by omega
            rw [enk] at hr1
            refine J_iload_n (i := 3) (n := 49) dX7_runs_48 rfl rfl rfl ?_
            refine J_bipush (n := 51) dX7_runs_49 kB_m4 rfl ?_
            refine J_icmp_ne (tgt := 68) (n := 54) dX7_runs_51 (by decide) rfl (fun c_51 => ?_) (fun c_51 => ?_)
            · refine J_iload_n (i := 3) (n := 69) dX7_runs_68 rfl rfl rfl ?_
              refine J_istore_n (i := 3) (n := 70) (lv' := [(0, _), (1, _), (2, _), (3, _), (4, _), (5, _)]) dX7_runs_69 rfl (by decide) rfl rfl ?_
              refine J_inc (i := 5) (n := 73) (lv' := [(0, _), (1, _), (2, _), (3, _), (4, _), (5, _)]) dX7_runs_70 rfl (by decide) rfl rfl ?_
              refine J_goto (tgt := 37) dX7_runs_73 (by decide) ?_
              rw [ed] at hN4
              first
              | (refine ih (k + 1) v4 _ (by omega) (by omega) hm4 hN4 (fun q => absurd q c_51) (fun _ => hr2 c_51))
              | (rw [tb_m hmono, ed] at c_60
                 refine ih (k + 1) v4 _ (by omega) (by omega) hm4 hN4 (fun _ => ?_) (fun q => absurd c_51 q)
                 have h0 := hr1 c_51
                 rw [fp_s _ (pw_days S.1.1 (k + 1))] at h0
                 rw [c_60, if_neg (by decide)] at h0
                 exact h0)
              | (rw [tb_m hmono, ed] at c_60
                 have h1 : Tn S.1.1.2.1 (pw_days S.1.1 (k + 1)).2.1 = true := by
                   cases z : Tn S.1.1.2.1 (pw_days S.1.1 (k + 1)).2.1 with
                   | true => rfl
                   | false => exact absurd z c_60
                 refine ih (k + 1) v4 _ (by omega) (by omega) hm4 hN4 (fun q => absurd q (cd_ne (by omega))) (fun _ => ?_)
                 have h0 := hr1 c_51
                 rw [fp_s _ (pw_days S.1.1 (k + 1))] at h0
                 rw [if_pos h1] at h0
                 exact h0)
            · refine J_aload_n (i := 0) (n := 55) dX7_runs_54 rfl rfl rfl ?_
              refine J_callVr (n := 58) wS_X7_pairedNow (c_M_pairedNow (d + 9) hN0 (pw_days_ok (pw_days_ok hO k) 1) ⟨rfl, rfl⟩) dX7_runs_55 wm_X7_204 ⟨wM_X7_pairedNow, wV_X7_pairedNow⟩ rfl (T_recv (by decide) (by first | assumption | decide)) rfl rfl (Nat.le_of_ble_eq_true rfl) rfl ?_
              refine J_iload (i := 4) (n := 60) dX7_runs_58 rfl rfl ?_
              refine J_icmp_eq (tgt := 68) (n := 63) dX7_runs_60 (by decide) rfl (fun c_60 => ?_) (fun c_60 => ?_)
              · refine J_iload_n (i := 3) (n := 69) dX7_runs_68 rfl rfl rfl ?_
                refine J_istore_n (i := 3) (n := 70) (lv' := [(0, _), (1, _), (2, _), (3, _), (4, _), (5, _)]) dX7_runs_69 rfl (by decide) rfl rfl ?_
                refine J_inc (i := 5) (n := 73) (lv' := [(0, _), (1, _), (2, _), (3, _), (4, _), (5, _)]) dX7_runs_70 rfl (by decide) rfl rfl ?_
                refine J_goto (tgt := 37) dX7_runs_73 (by decide) ?_
                rw [ed] at hN4
                first
                | (refine ih (k + 1) v4 _ (by omega) (by omega) hm4 hN4 (fun q => absurd q c_51) (fun _ => hr2 c_51))
                | (rw [tb_m hmono, ed] at c_60
                   refine ih (k + 1) v4 _ (by omega) (by omega) hm4 hN4 (fun _ => ?_) (fun q => absurd c_51 q)
                   have h0 := hr1 c_51
                   rw [fp_s _ (pw_days S.1.1 (k + 1))] at h0
                   rw [c_60, if_neg (by decide)] at h0
                   exact h0)
                | (rw [tb_m hmono, ed] at c_60
                   have h1 : Tn S.1.1.2.1 (pw_days S.1.1 (k + 1)).2.1 = true := by
                     cases z : Tn S.1.1.2.1 (pw_days S.1.1 (k + 1)).2.1 with
                     | true => rfl
                     | false => exact absurd z c_60
                   refine ih (k + 1) v4 _ (by omega) (by omega) hm4 hN4 (fun q => absurd q (cd_ne (by omega))) (fun _ => ?_)
                   have h0 := hr1 c_51
                   rw [fp_s _ (pw_days S.1.1 (k + 1))] at h0
                   rw [if_pos h1] at h0
                   exact h0)
              · refine J_iload (i := 5) (n := 65) dX7_runs_63 rfl rfl ?_
                refine J_goto (tgt := 69) dX7_runs_65 (by decide) ?_
                refine J_istore_n (i := 3) (n := 70) (lv' := [(0, _), (1, _), (2, _), (3, _), (4, _), (5, _)]) dX7_runs_69 rfl (by decide) rfl rfl ?_
                refine J_inc (i := 5) (n := 73) (lv' := [(0, _), (1, _), (2, _), (3, _), (4, _), (5, _)]) dX7_runs_70 rfl (by decide) rfl rfl ?_
                refine J_goto (tgt := 37) dX7_runs_73 (by decide) ?_
                rw [ed] at hN4
                first
                | (refine ih (k + 1) v4 _ (by omega) (by omega) hm4 hN4 (fun q => absurd q c_51) (fun _ => hr2 c_51))
                | (rw [tb_m hmono, ed] at c_60
                   refine ih (k + 1) v4 _ (by omega) (by omega) hm4 hN4 (fun _ => ?_) (fun q => absurd c_51 q)
                   have h0 := hr1 c_51
                   rw [fp_s _ (pw_days S.1.1 (k + 1))] at h0
                   rw [c_60, if_neg (by decide)] at h0
                   exact h0)
                | (rw [tb_m hmono, ed] at c_60
                   have h1 : Tn S.1.1.2.1 (pw_days S.1.1 (k + 1)).2.1 = true := by
                     cases z : Tn S.1.1.2.1 (pw_days S.1.1 (k + 1)).2.1 with
                     | true => rfl
                     | false => exact absurd z c_60
                   refine ih (k + 1) v4 _ (by omega) (by omega) hm4 hN4 (fun q => absurd q (cd_ne (by omega))) (fun _ => ?_)
                   have h0 := hr1 c_51
                   rw [fp_s _ (pw_days S.1.1 (k + 1))] at h0
                   rw [if_pos h1] at h0
                   exact h0)
      exact loop (n + 1) 0 v2 (-4) (by omega) (by omega) (hm.f hF2) hN2 (fun _ => by
        show (if Tn S.1.1.2.1 S.1.1.2.1 = true then nI 0 else _) = _
        rw [tn_self, if_neg (by decide)]; rfl) (fun q => absurd rfl q)
    · refine J_iconst (n := 20) dX7_runs_19 kI_m1 rfl ?_
      refine J_iret dX7_runs_20 rfl (kN_i _) ?_
      unfold sp_runs at hq
      rw [if_neg (by first | (rw [nb_0] at c_4; rw [c_4, Bool.false_and]; decide) | (rw [nb_0] at c_16; rw [c_16, Bool.and_false]; decide))] at hq
      exact hq v hm

