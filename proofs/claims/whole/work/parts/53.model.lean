set_option maxHeartbeats 4000000 in
set_option maxRecDepth 100000 in
theorem c_M_inL {G : gx_G} {h : gx_Hp} {Q : Option Value → gx_Hp → Prop} (d : Nat) (v : Int32) (a n : Nat) (ha : a < 2 ^ 31) (hn : n < 2 ^ 31) (hq : Q (some (.int (nI (decide (¬ v < nI a) && decide (¬ nI n < v)).toNat))) h) : gx_K G yX7_in mX7_in d 0 0 [.long v.toInt64, .long (lN a), .long (lN n)] h Q := by
  have g0 : v.toInt64 < lN a ↔ v < nI a := by rw [← nI_l ha, l_lt]
  have g1 : lN n < v.toInt64 ↔ nI n < v := by rw [← nI_l hn, l_lt]
  refine gx_K.of' (lv := [(0, _), (2, _), (4, _)]) (by decide) rfl (by decide) (Nat.le_of_ble_eq_true rfl) rfl ?_
  refine J_lload_n (i := 0) (n := 1) dX7_in_0 rfl rfl rfl ?_
  refine J_lload_n (i := 2) (n := 2) dX7_in_1 rfl rfl rfl ?_
  refine J_lcmp (n := 3) dX7_in_2 rfl ?_
  refine J_if_lt (tgt := 17) (n := 6) dX7_in_3 (by decide) rfl (fun c_3 => ?_) (fun c_3 => ?_)
  · refine J_iconst (n := 18) dX7_in_17 kI_0 rfl ?_
    refine J_iret dX7_in_18 rfl (by first | exact kN_0 | exact kN_1) ?_
    rw [lc_lt, g0] at c_3
    try rw [lc_gt, g1] at c_10
    first
    | (rw [decide_eq_false (Classical.not_not.mpr c_3)] at hq; exact hq)
    | (rw [decide_eq_true c_3, decide_eq_false (Classical.not_not.mpr c_10)] at hq; exact hq)
    | (rw [decide_eq_true c_3, decide_eq_true c_10] at hq; exact hq)
  · refine J_lload_n (i := 0) (n := 7) dX7_in_6 rfl rfl rfl ?_
    refine J_lload (i := 4) (n := 9) dX7_in_7 rfl rfl ?_
    refine J_lcmp (n := 10) dX7_in_9 rfl ?_
    refine J_if_gt (tgt := 17) (n := 13) dX7_in_10 (by decide) rfl (fun c_10 => ?_) (fun c_10 => ?_)
    · refine J_iconst (n := 18) dX7_in_17 kI_0 rfl ?_
      refine J_iret dX7_in_18 rfl (by first | exact kN_0 | exact kN_1) ?_
      rw [lc_lt, g0] at c_3
      try rw [lc_gt, g1] at c_10
      first
      | (rw [decide_eq_false (Classical.not_not.mpr c_3)] at hq; exact hq)
      | (rw [decide_eq_true c_3, decide_eq_false (Classical.not_not.mpr c_10)] at hq; exact hq)
      | (rw [decide_eq_true c_3, decide_eq_true c_10] at hq; exact hq)
    · refine J_iconst (n := 14) dX7_in_13 kI_1 rfl ?_
      refine J_goto (tgt := 18) dX7_in_14 (by decide) ?_
      refine J_iret dX7_in_18 rfl (by first | exact kN_0 | exact kN_1) ?_
      rw [lc_lt, g0] at c_3
      try rw [lc_gt, g1] at c_10
      first
      | (rw [decide_eq_false (Classical.not_not.mpr c_3)] at hq; exact hq)
      | (rw [decide_eq_true c_3, decide_eq_false (Classical.not_not.mpr c_10)] at hq; exact hq)
      | (rw [decide_eq_true c_3, decide_eq_true c_10] at hq; exact hq)

set_option maxHeartbeats 4000000 in
set_option maxRecDepth 100000 in
theorem c_N_drift {G : gx_G} {σ : gs_S} {Q : Option Value → gx_Hp → Prop} {S : pS} {v : gs_Ob} (d : Nat) (x n w : Int32) (hS : SOk S) (hm : mR v S) (hq : ∀ v1, mR v1 S → Q (some (.int (sp_drift S x n w))) (hp G (gs_set σ 7 0 v1))) : gx_K G yX7_drift mX7_drift (d + 12) 0 0 [.ref (gs_a G 7 0 0), .int x, .int n, .int w] (hp G (gs_set σ 7 0 v)) Q := by
  obtain ⟨⟨ha, hsn, hgl⟩, hkm, htp, hft, hsh⟩ := id hm
  have hO := hS.1.1
  have hB := hO.aB
  have h4 : S.1.1.2.2 6 ≤ 4 := hO.2.2.2.2.1
  have h6 : S.1.1.2.2 7 ≤ 6 := hO.2.2.2.2.2.1
  have hm11 : S.1.1.2.2 8 ≤ 11 := hO.2.2.2.2.2.2.1
  have hn9 : S.1.1.2.2 9 ≤ 9999 := hO.2.2.2.2.2.2.2
  have hd9 : S.1.1.2.2 10 ≤ 999 := hS.1.2.2.1
  have h160 : S.2.2.2.1.2 ≤ 160 := hS.2.2.1.1
  have e28 := ha.2.2.2.1
  have e29 := ha.2.2.2.2.1
  have e36 := ha.2.2.2.2.2.1
  have e37 := ha.2.2.2.2.2.2
  have g0 : gs_set σ 7 0 v 7 0 = v := gs_same _ _ _ _
  have hgl0 : (gs_set σ 7 0 v 7 0).2.1 3 = nI (S.1.1.2.2 6) := by rw [g0]; exact hgl
  have ha0 : aR ((gs_set σ 7 0 v 7 0).1 0) S.1.1 := by rw [g0]; exact ha
  refine gx_K.of' (lv := [(0, _), (1, _), (2, _), (3, _)]) (by decide) rfl (by decide) (Nat.le_of_ble_eq_true rfl) rfl ?_
  refine J_iload_n (i := 2) (n := 1) dX7_drift_0 rfl rfl rfl ?_
  refine J_i2l (n := 2) dX7_drift_1 rfl ?_
  refine J_lconst (n := 3) dX7_drift_2 kL_1 rfl ?_
  refine J_ldc2 (n := 6) dX7_drift_3 wd_X7_242 rfl ?_
  refine J_callSr (n := 9) wS_X7_in (c_M_inL (d + 11) n 1 60 (by decide) (by decide) ⟨rfl, rfl⟩) dX7_drift_6 wm_X7_72 wT_X7_in rfl rfl (Nat.le_of_ble_eq_true rfl) rfl ?_
  refine J_if_eq (tgt := 19) (n := 12) dX7_drift_9 (by decide) rfl (fun c_9 => ?_) (fun c_9 => ?_)
  · refine J_iconst (n := 20) dX7_drift_19 kI_m1 rfl ?_
    refine J_iret dX7_drift_20 rfl (kN_i _) ?_
    unfold sp_drift at hq
    rw [← Bool.and_assoc, if_neg (by
      first
      | (rw [nb_0] at c_9; rw [c_9, Bool.false_and]; decide)
      | (rw [nb_0] at c_16; rw [c_16, Bool.and_false]; decide))] at hq
    exact hq v hm
  · refine J_iload_n (i := 3) (n := 13) dX7_drift_12 rfl rfl rfl ?_
    refine J_callSr (n := 16) wS_X7_isPart (c_M_isPart (d + 10) w ⟨rfl, rfl⟩) dX7_drift_13 wm_X7_216 wT_X7_isPart rfl rfl (Nat.le_of_ble_eq_true rfl) rfl ?_
    refine J_if_ne (tgt := 21) (n := 19) dX7_drift_16 (by decide) rfl (fun c_16 => ?_) (fun c_16 => ?_)
    · rw [nb_t] at c_9 c_16
      unfold sp_drift at hq
      rw [← Bool.and_assoc, if_pos (by rw [c_9, c_16]; rfl)] at hq
      rw [Bool.and_eq_true, decide_eq_true_eq, decide_eq_true_eq] at c_9
      obtain ⟨c_2, c_8⟩ := c_9
      obtain ⟨n, hn31, rfl⟩ := nI_of (show ¬ n < 0 from fun q => c_2 (Int32.lt_trans q (by decide +kernel)))
      rw [nat_nI (by omega)] at hq
      rw [nI_ltI (by omega) (by decide)] at c_2
      rw [nI_ltI (by decide) (by omega)] at c_8
      refine J_iload_n (i := 1) (n := 22) dX7_drift_21 rfl rfl rfl ?_
      refine J_istore (i := 4) (n := 24) (lv' := [(0, _), (1, _), (2, _), (3, _), (4, _)]) dX7_drift_22 (by decide) rfl rfl ?_
      refine J_aload_n (i := 0) (n := 25) dX7_drift_24 rfl rfl rfl ?_
      refine J_callVx (n := 28) wS_X7_starts (c_M_starts (Q := fun r h => r = none ∧ ∃ v2, mN v2 S.1.1 ∧ mF v v2 ∧ h = hp G (gs_set σ 7 0 v2)) (d + 11) (fun v2 k1 _ k3 k4 => ⟨rfl, v2, ⟨hm.1.1.ext hB k1, by rw [k4]; exact hm.1.2.2⟩, ⟨k3, k4, k1⟩, rfl⟩)) dX7_drift_25 wm_X7_201 ⟨wM_X7_starts, wV_X7_starts⟩ rfl (T_recv (by decide) (by first | assumption | decide)) rfl rfl (Nat.le_of_ble_eq_true rfl) rfl (fun r h1 hq1 => ?_)
      obtain ⟨rfl, v2, hN2, hF2, rfl⟩ := hq1
      refine J_iconst (n := 29) dX7_drift_28 kI_0 rfl ?_
      refine J_istore (i := 5) (n := 31) (lv' := [(0, _), (1, _), (2, _), (3, _), (4, _), (5, _)]) dX7_drift_29 (by decide) rfl rfl ?_
      have n12 : ¬ nI 12 = 0 := by decide +kernel
      have loop : ∀ u e p1 x1 v1, n - e < u → e ≤ n → mR v1 S → mN v1 p1 → pOk p1 → p1.2.2 10 = S.1.1.2.2 10 + e → drf S.1.1 x n = drf p1 x1 (n - e) → gx_J G mX7_drift (d + 12) 0 0 Q 31 [(0, .ref (gs_a G 7 0 0)), (1, .int x), (2, .int (nI n)), (3, .int w), (4, .int x1), (5, .int (nI e))] [] (hp G (gs_set σ 7 0 v1)) := by
        intro u
        induction u with
        | zero => intros; exact absurd (by assumption) (Nat.not_lt_zero _)
        | succ u ih =>
          intro e p1 x1 v1 hu he hm1 hN1 hO1 hdy hdr
          have hN0 : mN (gs_set σ 7 0 v1 7 0) p1 := by rw [gs_same]; exact hN1
          refine J_iload (i := 5) (n := 33) dX7_drift_31 rfl rfl ?_
          refine J_iload_n (i := 2) (n := 34) dX7_drift_33 rfl rfl rfl ?_
          refine J_icmp_ge (tgt := 71) (n := 37) dX7_drift_34 (by decide) rfl (fun c_34 => ?_) (fun c_34 => ?_)
          · rw [nI_leI (by omega) (by omega)] at c_34
            have ee : n = e := by omega
            subst ee
            rw [Nat.sub_self] at hdr
            have hdr : drf S.1.1 x n = p1 := hdr
            rw [hdr] at hq
            refine J_iload_n (i := 3) (n := 72) dX7_drift_71 rfl rfl rfl ?_
            refine J_if_ne (tgt := 82) (n := 75) dX7_drift_72 (by decide) rfl (fun c_72 => ?_) (fun c_72 => ?_)
            · refine J_aload_n (i := 0) (n := 83) dX7_drift_82 rfl rfl rfl ?_
              refine J_callVr (n := 86) wS_X7_metMany (c_M_metMany (d + 9) hN0 hO1 ⟨rfl, rfl⟩) dX7_drift_83 wm_X7_198 ⟨wM_X7_metMany, wV_X7_metMany⟩ rfl (T_recv (by decide) (by first | assumption | decide)) rfl rfl (Nat.le_of_ble_eq_true rfl) rfl ?_
              refine J_iret dX7_drift_86 rfl (kN_i _) ?_
              first
              | (rw [if_pos c_72] at hq; exact hq _ hm1)
              | (rw [if_neg c_72] at hq; exact hq _ hm1)
            · refine J_aload_n (i := 0) (n := 76) dX7_drift_75 rfl rfl rfl ?_
              refine J_callVr (n := 79) wS_X7_nameMore (c_M_nameMore (d + 11) hN0 (n0 := S.1.1.2.2 9) (by rw [gs_same]; exact hm1.1.1.2.2.2.2.2.1) ⟨rfl, rfl⟩) dX7_drift_76 wm_X7_191 ⟨wM_X7_nameMore, wV_X7_nameMore⟩ rfl (T_recv (by decide) (by first | assumption | decide)) rfl rfl (Nat.le_of_ble_eq_true rfl) rfl ?_
              refine J_goto (tgt := 86) dX7_drift_79 (by decide) ?_
              refine J_iret dX7_drift_86 rfl (kN_i _) ?_
              first
              | (rw [if_pos c_72] at hq; exact hq _ hm1)
              | (rw [if_neg c_72] at hq; exact hq _ hm1)
          · rw [nI_leI (by omega) (by omega)] at c_34
            refine J_iload (i := 4) (n := 39) dX7_drift_37 rfl rfl ?_
            refine J_ldcw (n := 42) dX7_drift_39 wd_X7_302 rfl ?_
            refine J_imul (n := 43) dX7_drift_42 rfl ?_
            refine J_sipush (n := 46) dX7_drift_43 kS_12345 rfl ?_
            refine J_iadd (n := 47) dX7_drift_46 rfl ?_
            rw [show x1 * 1103515245 + nI 12345 = sd x1 from rfl]
            obtain ⟨m, hm1x, hm2, hm3, hm4⟩ := sd_and (sd x1)
            refine J_istore (i := 4) (n := 49) (lv' := [(0, _), (1, _), (2, _), (3, _), (4, _), (5, _)]) dX7_drift_47 (by decide) rfl rfl ?_
            refine J_aload_n (i := 0) (n := 50) dX7_drift_49 rfl rfl rfl ?_
            refine J_iload (i := 4) (n := 52) dX7_drift_50 rfl rfl ?_
            refine J_bipush (n := 54) dX7_drift_52 kB_16 rfl ?_
            refine J_ishr (n := 55) dX7_drift_54 rfl ?_
            refine J_sipush (n := 58) dX7_drift_55 kS_32767 rfl ?_
            refine J_iand (n := 59) dX7_drift_58 rfl ?_
            rw [hm4]
            refine J_bipush (n := 61) dX7_drift_59 kB_12 rfl ?_
            refine J_irem (n := 62) dX7_drift_61 n12 rfl ?_
            rw [dd_mod hm1x, show m % 12 = dd (sd x1) from by unfold dd; rw [hm2]]
            refine J_callVx (n := 65) wS_X7_dayGoesAt (c_M_dayGoesAt (Q := fun r h => r = none ∧ ∃ v2, mN v2 (pw_day p1 (dd (sd x1))) ∧ mE v1 v2 ∧ h = hp G (gs_set σ 7 0 v2)) (d + 6) hN1 hO1 (dd_lt _) (by omega) (fun v2 h1 h2 => ⟨rfl, v2, h1, h2, rfl⟩)) dX7_drift_62 wm_X7_185 ⟨wM_X7_dayGoesAt, wV_X7_dayGoesAt⟩ rfl (T_recv (by decide) (by first | assumption | decide)) rfl rfl (Nat.le_of_ble_eq_true rfl) rfl (fun r h1 hq1 => ?_)
            obtain ⟨rfl, v2, hN2, hE2, rfl⟩ := hq1
            refine J_inc (i := 5) (n := 68) (lv' := [(0, _), (1, _), (2, _), (3, _), (4, _), (5, _)]) dX7_drift_65 rfl (by decide) rfl rfl ?_
            refine J_goto (tgt := 31) dX7_drift_68 (by decide) ?_
            exact ih (e + 1) _ _ v2 (by omega) (by omega) (hm1.e hE2) hN2 (pw_day_ok hO1 (dd_lt _)) (by rw [pw_day_day]; omega) (by rw [hdr, show n - e = (n - (e + 1)) + 1 by omega]; rfl)
      exact loop (n + 1) 0 _ _ v2 (by omega) (by omega) (hm.f hF2) hN2 hO rfl rfl
    · refine J_iconst (n := 20) dX7_drift_19 kI_m1 rfl ?_
      refine J_iret dX7_drift_20 rfl (kN_i _) ?_
      unfold sp_drift at hq
      rw [← Bool.and_assoc, if_neg (by
        first
        | (rw [nb_0] at c_9; rw [c_9, Bool.false_and]; decide)
        | (rw [nb_0] at c_16; rw [c_16, Bool.and_false]; decide))] at hq
      exact hq v hm

set_option maxHeartbeats 4000000 in
set_option maxRecDepth 100000 in
theorem c_N_alterX {G : gx_G} {σ : gs_S} {Q : Option Value → gx_Hp → Prop} {S : pS} {v : gs_Ob} (d : Nat) (g w x : Int32) (hS : SOk S) (hm : mR v S) (hq : ∀ v1 : gs_Ob, mR v1 (sp_alter S g w x).2 → (∀ k, k ≠ 0 → v1.1 k = v.1 k) → v1.2 = v.2 → (∀ q, 38 ≤ q → v1.1 0 q = v.1 0 q) → Q (some (.int (sp_alter S g w x).1)) (hp G (gs_set σ 7 0 v1))) : gx_K G yX7_alter mX7_alter (d + 12) 0 0 [.ref (gs_a G 7 0 0), .int g, .int w, .int x] (hp G (gs_set σ 7 0 v)) Q := by
  obtain ⟨⟨ha, hsn, hgl⟩, hkm, htp, hft, hsh⟩ := id hm
  have hO := hS.1.1
  have hB := hO.aB
  have h4 : S.1.1.2.2 6 ≤ 4 := hO.2.2.2.2.1
  have h6 : S.1.1.2.2 7 ≤ 6 := hO.2.2.2.2.2.1
  have hm11 : S.1.1.2.2 8 ≤ 11 := hO.2.2.2.2.2.2.1
  have hn9 : S.1.1.2.2 9 ≤ 9999 := hO.2.2.2.2.2.2.2
  have hd9 : S.1.1.2.2 10 ≤ 999 := hS.1.2.2.1
  have h160 : S.2.2.2.1.2 ≤ 160 := hS.2.2.1.1
  have e28 := ha.2.2.2.1
  have e29 := ha.2.2.2.2.1
  have e36 := ha.2.2.2.2.2.1
  have e37 := ha.2.2.2.2.2.2
  have g0 : gs_set σ 7 0 v 7 0 = v := gs_same _ _ _ _
  have hgl0 : (gs_set σ 7 0 v 7 0).2.1 3 = nI (S.1.1.2.2 6) := by rw [g0]; exact hgl
  have ha0 : aR ((gs_set σ 7 0 v 7 0).1 0) S.1.1 := by rw [g0]; exact ha
  refine gx_K.of' (lv := [(0, _), (1, _), (2, _), (3, _)]) (by decide) rfl (by decide) (Nat.le_of_ble_eq_true rfl) rfl ?_
  refine J_iload_n (i := 2) (n := 1) dX7_alter_0 rfl rfl rfl ?_
  refine J_if_ne (tgt := 16) (n := 4) dX7_alter_1 (by decide) rfl (fun c_1 => ?_) (fun c_1 => ?_)
  · refine J_iload_n (i := 2) (n := 17) dX7_alter_16 rfl rfl rfl ?_
    refine J_iconst (n := 18) dX7_alter_17 kI_1 rfl ?_
    refine J_icmp_ne (tgt := 28) (n := 21) dX7_alter_18 (by decide) rfl (fun c_18 => ?_) (fun c_18 => ?_)
    · refine J_iload_n (i := 2) (n := 29) dX7_alter_28 rfl rfl rfl ?_
      refine J_iconst (n := 30) dX7_alter_29 kI_2 rfl ?_
      refine J_icmp_ne (tgt := 49) (n := 33) dX7_alter_30 (by decide) rfl (fun c_30 => ?_) (fun c_30 => ?_)
      · refine J_iconst (n := 50) dX7_alter_49 kI_0 rfl ?_
        first
        | rw [show nI (ix_in x 3).toNat = nI (grb w x).toNat from by rw [grb, if_pos c_1]]
        | rw [show nI (ix_in x 11).toNat = nI (grb w x).toNat from by rw [grb, if_neg c_1, if_pos (show w = 1 from c_18)]]
        | rw [show nI 1 = nI (grb w x).toNat from by rw [grb, if_neg c_1, if_neg (show ¬ w = 1 from c_18), if_pos (show w = 2 from c_30), (nb_t _).mp c_42]; rfl]
        | rw [show nI 0 = nI (grb w x).toNat from by rw [grb, if_neg c_1, if_neg (show ¬ w = 1 from c_18), if_pos (show w = 2 from c_30), (nb_0 _).mp c_42]; rfl]
        | rw [show nI 0 = nI (grb w x).toNat from by rw [grb, if_neg c_1, if_neg (show ¬ w = 1 from c_18), if_neg (show ¬ w = 2 from c_30)]; rfl]
        refine J_istore (i := 4) (n := 52) (lv' := [(0, _), (1, _), (2, _), (3, _), (4, _)]) dX7_alter_50 (by decide) rfl rfl ?_
        refine J_aload_n (i := 0) (n := 53) dX7_alter_52 rfl rfl rfl ?_
        refine J_iload_n (i := 1) (n := 54) dX7_alter_53 rfl rfl rfl ?_
        refine J_callVr (n := 57) wS_X7_isGlove (c_M_isGlove (d + 10) g (S.1.1.2.2 6) hgl0 (by omega) ⟨rfl, rfl⟩) dX7_alter_54 wm_X7_210 ⟨wM_X7_isGlove, wV_X7_isGlove⟩ rfl (T_recv (by decide) (by first | assumption | decide)) rfl rfl (Nat.le_of_ble_eq_true rfl) rfl ?_
        refine J_if_eq (tgt := 65) (n := 60) dX7_alter_57 (by decide) rfl (fun c_57 => ?_) (fun c_57 => ?_)
        · refine J_iconst (n := 66) dX7_alter_65 kI_m1 rfl ?_
          refine J_iret dX7_alter_66 rfl (kN_i _) ?_
          have hn1 : sp_no S g w x = -1 := by
            unfold sp_no
            rw [if_neg (by first | (rw [nb_0] at c_57; rw [show isG S g = false from c_57, Bool.false_and]; decide) | (rw [nb_0] at c_62; rw [c_62, Bool.and_false]; decide))]
          unfold sp_alter at hq
          rw [hn1, if_neg (by decide +kernel)] at hq
          exact hq v hm (fun _ _ => rfl) rfl (fun _ _ => rfl)
        · refine J_iload (i := 4) (n := 62) dX7_alter_60 rfl rfl ?_
          refine J_if_ne (tgt := 67) (n := 65) dX7_alter_62 (by decide) rfl (fun c_62 => ?_) (fun c_62 => ?_)
          · rw [nb_t] at c_57 c_62
            obtain ⟨j, hj, rfl⟩ := isG_of (S := S) c_57 hO
            obtain ⟨k, z, hk, hz, rfl, rfl, hk0, hk1⟩ := grb_of c_62
            have hno : sp_no S (nI j) (nI k) (nI z) = (if nI k = 1 ∧ S.1.1.2.1 j = true then -2 else nI 0) := by
              unfold sp_no
              rw [if_pos (by rw [show isG S (nI j) = true from c_57, c_62]; rfl), nat_nI (by omega)]
            refine J_iload_n (i := 2) (n := 68) dX7_alter_67 rfl rfl rfl ?_
            refine J_iconst (n := 69) dX7_alter_68 kI_1 rfl ?_
            refine J_icmp_ne (tgt := 85) (n := 72) dX7_alter_69 (by decide) rfl (fun c_69 => ?_) (fun c_69 => ?_)
            · have hn0 : sp_no S (nI j) (nI k) (nI z) = nI 0 := by
                rw [hno, if_neg]
                rintro ⟨q1, q2⟩
                first
                | exact c_69 q1
                | (rw [nb_0, q2] at c_77; cases c_77)
              unfold sp_alter at hq
              rw [if_pos hn0, nat_nI (by omega), nat_nI (by omega), nat_nI (by omega)] at hq
              have hvk : v.1 0 (12 + 4 * j + k) = nI (S.1.1.1 (k + 1) j) := by
                obtain ⟨n0, n1, n2, n3⟩ := ha.2.1 j hj
                rcases (show k = 0 ∨ k = 1 ∨ k = 2 by omega) with rfl | rfl | rfl
                · exact n0
                · refine n1 ?_
                  cases e : S.1.1.2.1 j with
                  | false => rfl
                  | true => rw [hno, if_pos ⟨rfl, e⟩] at hn0; exact absurd hn0 (by decide +kernel)
                · exact n2
              refine J_aload_n (i := 0) (n := 86) dX7_alter_85 rfl rfl rfl ?_
              refine J_bipush (n := 88) dX7_alter_86 kB_12 rfl ?_
              refine J_iconst (n := 89) dX7_alter_88 kI_4 rfl ?_
              refine J_iload_n (i := 1) (n := 90) dX7_alter_89 rfl rfl rfl ?_
              refine J_imul (n := 91) dX7_alter_90 rfl ?_
              refine J_iadd (n := 92) dX7_alter_91 rfl ?_
              refine J_iload_n (i := 2) (n := 93) dX7_alter_92 rfl rfl rfl ?_
              refine J_iadd (n := 94) dX7_alter_93 rfl ?_
              rw [pk_mul, nI_add, nI_add]
              refine J_iload_n (i := 3) (n := 95) dX7_alter_94 rfl rfl rfl ?_
              refine J_callVr (n := 98) wS_X7_becomes (c_M_becomes (d + 11) _ (by omega) ⟨rfl, rfl⟩) dX7_alter_95 wm_X7_229 ⟨wM_X7_becomes, wV_X7_becomes⟩ rfl (T_recv (by decide) (by first | assumption | decide)) rfl rfl (Nat.le_of_ble_eq_true rfl) rfl ?_
              refine J_iret dX7_alter_98 rfl (kN_i _) ?_
              first
              | (rw [hvk]; exact hq _ (hm.put hS (by omega) (ha.part hB z hj hk) rfl) (fun q hq0 => gs_wn _ _ hq0) rfl (fun q hq0 => by rw [gs_wk, pk_un (by omega)]))
              | (rw [nb_t] at c_77
                 rw [if_pos ⟨show nI k = 1 from c_69, c_77⟩] at hno
                 unfold sp_alter at hq
                 rw [hno, if_neg (by decide +kernel)] at hq
                 exact hq v hm (fun _ _ => rfl) rfl (fun _ _ => rfl))
            · refine J_aload_n (i := 0) (n := 73) dX7_alter_72 rfl rfl rfl ?_
              refine J_iload_n (i := 1) (n := 74) dX7_alter_73 rfl rfl rfl ?_
              refine J_callVr (n := 77) wS_X7_wasPaired (c_M_wasPaired (d + 11) ha0 hB hj ⟨rfl, rfl⟩) dX7_alter_74 wm_X7_226 ⟨wM_X7_wasPaired, wV_X7_wasPaired⟩ rfl (T_recv (by decide) (by first | assumption | decide)) rfl rfl (Nat.le_of_ble_eq_true rfl) rfl ?_
              refine J_if_eq (tgt := 85) (n := 80) dX7_alter_77 (by decide) rfl (fun c_77 => ?_) (fun c_77 => ?_)
              · have hn0 : sp_no S (nI j) (nI k) (nI z) = nI 0 := by
                  rw [hno, if_neg]
                  rintro ⟨q1, q2⟩
                  first
                  | exact c_69 q1
                  | (rw [nb_0, q2] at c_77; cases c_77)
                unfold sp_alter at hq
                rw [if_pos hn0, nat_nI (by omega), nat_nI (by omega), nat_nI (by omega)] at hq
                have hvk : v.1 0 (12 + 4 * j + k) = nI (S.1.1.1 (k + 1) j) := by
                  obtain ⟨n0, n1, n2, n3⟩ := ha.2.1 j hj
                  rcases (show k = 0 ∨ k = 1 ∨ k = 2 by omega) with rfl | rfl | rfl
                  · exact n0
                  · refine n1 ?_
                    cases e : S.1.1.2.1 j with
                    | false => rfl
                    | true => rw [hno, if_pos ⟨rfl, e⟩] at hn0; exact absurd hn0 (by decide +kernel)
                  · exact n2
                refine J_aload_n (i := 0) (n := 86) dX7_alter_85 rfl rfl rfl ?_
                refine J_bipush (n := 88) dX7_alter_86 kB_12 rfl ?_
                refine J_iconst (n := 89) dX7_alter_88 kI_4 rfl ?_
                refine J_iload_n (i := 1) (n := 90) dX7_alter_89 rfl rfl rfl ?_
                refine J_imul (n := 91) dX7_alter_90 rfl ?_
                refine J_iadd (n := 92) dX7_alter_91 rfl ?_
                refine J_iload_n (i := 2) (n := 93) dX7_alter_92 rfl rfl rfl ?_
                refine J_iadd (n := 94) dX7_alter_93 rfl ?_
                rw [pk_mul, nI_add, nI_add]
                refine J_iload_n (i := 3) (n := 95) dX7_alter_94 rfl rfl rfl ?_
                refine J_callVr (n := 98) wS_X7_becomes (c_M_becomes (d + 11) _ (by omega) ⟨rfl, rfl⟩) dX7_alter_95 wm_X7_229 ⟨wM_X7_becomes, wV_X7_becomes⟩ rfl (T_recv (by decide) (by first | assumption | decide)) rfl rfl (Nat.le_of_ble_eq_true rfl) rfl ?_
                refine J_iret dX7_alter_98 rfl (kN_i _) ?_
                first
                | (rw [hvk]; exact hq _ (hm.put hS (by omega) (ha.part hB z hj hk) rfl) (fun q hq0 => gs_wn _ _ hq0) rfl (fun q hq0 => by rw [gs_wk, pk_un (by omega)]))
                | (rw [nb_t] at c_77
                   rw [if_pos ⟨show nI k = 1 from c_69, c_77⟩] at hno
                   unfold sp_alter at hq
                   rw [hno, if_neg (by decide +kernel)] at hq
                   exact hq v hm (fun _ _ => rfl) rfl (fun _ _ => rfl))
              · refine J_bipush (n := 82) dX7_alter_80 kB_m2 rfl ?_
                refine J_goto (tgt := 98) dX7_alter_82 (by decide) ?_
                refine J_iret dX7_alter_98 rfl (kN_i _) ?_
                first
                | (rw [hvk]; exact hq _ (hm.put hS (by omega) (ha.part hB z hj hk) rfl) (fun q hq0 => gs_wn _ _ hq0) rfl (fun q hq0 => by rw [gs_wk, pk_un (by omega)]))
                | (rw [nb_t] at c_77
                   rw [if_pos ⟨show nI k = 1 from c_69, c_77⟩] at hno
                   unfold sp_alter at hq
                   rw [hno, if_neg (by decide +kernel)] at hq
                   exact hq v hm (fun _ _ => rfl) rfl (fun _ _ => rfl))
          · refine J_iconst (n := 66) dX7_alter_65 kI_m1 rfl ?_
            refine J_iret dX7_alter_66 rfl (kN_i _) ?_
            have hn1 : sp_no S g w x = -1 := by
              unfold sp_no
              rw [if_neg (by first | (rw [nb_0] at c_57; rw [show isG S g = false from c_57, Bool.false_and]; decide) | (rw [nb_0] at c_62; rw [c_62, Bool.and_false]; decide))]
            unfold sp_alter at hq
            rw [hn1, if_neg (by decide +kernel)] at hq
            exact hq v hm (fun _ _ => rfl) rfl (fun _ _ => rfl)
      · refine J_iload_n (i := 3) (n := 34) dX7_alter_33 rfl rfl rfl ?_
        refine J_i2l (n := 35) dX7_alter_34 rfl ?_
        refine J_lconst (n := 36) dX7_alter_35 kL_0 rfl ?_
        refine J_ldc2 (n := 39) dX7_alter_36 wd_X7_224 rfl ?_
        refine J_callSr (n := 42) wS_X7_in (c_M_in (d + 11) x 20 (by decide) ⟨rfl, rfl⟩) dX7_alter_39 wm_X7_72 wT_X7_in rfl rfl (Nat.le_of_ble_eq_true rfl) rfl ?_
        refine J_if_eq (tgt := 49) (n := 45) dX7_alter_42 (by decide) rfl (fun c_42 => ?_) (fun c_42 => ?_)
        · refine J_iconst (n := 50) dX7_alter_49 kI_0 rfl ?_
          first
          | rw [show nI (ix_in x 3).toNat = nI (grb w x).toNat from by rw [grb, if_pos c_1]]
          | rw [show nI (ix_in x 11).toNat = nI (grb w x).toNat from by rw [grb, if_neg c_1, if_pos (show w = 1 from c_18)]]
          | rw [show nI 1 = nI (grb w x).toNat from by rw [grb, if_neg c_1, if_neg (show ¬ w = 1 from c_18), if_pos (show w = 2 from c_30), (nb_t _).mp c_42]; rfl]
          | rw [show nI 0 = nI (grb w x).toNat from by rw [grb, if_neg c_1, if_neg (show ¬ w = 1 from c_18), if_pos (show w = 2 from c_30), (nb_0 _).mp c_42]; rfl]
          | rw [show nI 0 = nI (grb w x).toNat from by rw [grb, if_neg c_1, if_neg (show ¬ w = 1 from c_18), if_neg (show ¬ w = 2 from c_30)]; rfl]
          refine J_istore (i := 4) (n := 52) (lv' := [(0, _), (1, _), (2, _), (3, _), (4, _)]) dX7_alter_50 (by decide) rfl rfl ?_
          refine J_aload_n (i := 0) (n := 53) dX7_alter_52 rfl rfl rfl ?_
          refine J_iload_n (i := 1) (n := 54) dX7_alter_53 rfl rfl rfl ?_
          refine J_callVr (n := 57) wS_X7_isGlove (c_M_isGlove (d + 10) g (S.1.1.2.2 6) hgl0 (by omega) ⟨rfl, rfl⟩) dX7_alter_54 wm_X7_210 ⟨wM_X7_isGlove, wV_X7_isGlove⟩ rfl (T_recv (by decide) (by first | assumption | decide)) rfl rfl (Nat.le_of_ble_eq_true rfl) rfl ?_
          refine J_if_eq (tgt := 65) (n := 60) dX7_alter_57 (by decide) rfl (fun c_57 => ?_) (fun c_57 => ?_)
          · refine J_iconst (n := 66) dX7_alter_65 kI_m1 rfl ?_
            refine J_iret dX7_alter_66 rfl (kN_i _) ?_
            have hn1 : sp_no S g w x = -1 := by
              unfold sp_no
              rw [if_neg (by first | (rw [nb_0] at c_57; rw [show isG S g = false from c_57, Bool.false_and]; decide) | (rw [nb_0] at c_62; rw [c_62, Bool.and_false]; decide))]
            unfold sp_alter at hq
            rw [hn1, if_neg (by decide +kernel)] at hq
            exact hq v hm (fun _ _ => rfl) rfl (fun _ _ => rfl)
          · refine J_iload (i := 4) (n := 62) dX7_alter_60 rfl rfl ?_
            refine J_if_ne (tgt := 67) (n := 65) dX7_alter_62 (by decide) rfl (fun c_62 => ?_) (fun c_62 => ?_)
            · rw [nb_t] at c_57 c_62
              obtain ⟨j, hj, rfl⟩ := isG_of (S := S) c_57 hO
              obtain ⟨k, z, hk, hz, rfl, rfl, hk0, hk1⟩ := grb_of c_62
              have hno : sp_no S (nI j) (nI k) (nI z) = (if nI k = 1 ∧ S.1.1.2.1 j = true then -2 else nI 0) := by
                unfold sp_no
                rw [if_pos (by rw [show isG S (nI j) = true from c_57, c_62]; rfl), nat_nI (by omega)]
              refine J_iload_n (i := 2) (n := 68) dX7_alter_67 rfl rfl rfl ?_
              refine J_iconst (n := 69) dX7_alter_68 kI_1 rfl ?_
              refine J_icmp_ne (tgt := 85) (n := 72) dX7_alter_69 (by decide) rfl (fun c_69 => ?_) (fun c_69 => ?_)
              · have hn0 : sp_no S (nI j) (nI k) (nI z) = nI 0 := by
                  rw [hno, if_neg]
                  rintro ⟨q1, q2⟩
                  first
                  | exact c_69 q1
                  | (rw [nb_0, q2] at c_77; cases c_77)
                unfold sp_alter at hq
                rw [if_pos hn0, nat_nI (by omega), nat_nI (by omega), nat_nI (by omega)] at hq
                have hvk : v.1 0 (12 + 4 * j + k) = nI (S.1.1.1 (k + 1) j) := by
                  obtain ⟨n0, n1, n2, n3⟩ := ha.2.1 j hj
                  rcases (show k = 0 ∨ k = 1 ∨ k = 2 by omega) with rfl | rfl | rfl
                  · exact n0
                  · refine n1 ?_
                    cases e : S.1.1.2.1 j with
                    | false => rfl
                    | true => rw [hno, if_pos ⟨rfl, e⟩] at hn0; exact absurd hn0 (by decide +kernel)
                  · exact n2
                refine J_aload_n (i := 0) (n := 86) dX7_alter_85 rfl rfl rfl ?_
                refine J_bipush (n := 88) dX7_alter_86 kB_12 rfl ?_
                refine J_iconst (n := 89) dX7_alter_88 kI_4 rfl ?_
                refine J_iload_n (i := 1) (n := 90) dX7_alter_89 rfl rfl rfl ?_
                refine J_imul (n := 91) dX7_alter_90 rfl ?_
                refine J_iadd (n := 92) dX7_alter_91 rfl ?_
                refine J_iload_n (i := 2) (n := 93) dX7_alter_92 rfl rfl rfl ?_
                refine J_iadd (n := 94) dX7_alter_93 rfl ?_
                rw [pk_mul, nI_add, nI_add]
                refine J_iload_n (i := 3) (n := 95) dX7_alter_94 rfl rfl rfl ?_
                refine J_callVr (n := 98) wS_X7_becomes (c_M_becomes (d + 11) _ (by omega) ⟨rfl, rfl⟩) dX7_alter_95 wm_X7_229 ⟨wM_X7_becomes, wV_X7_becomes⟩ rfl (T_recv (by decide) (by first | assumption | decide)) rfl rfl (Nat.le_of_ble_eq_true rfl) rfl ?_
                refine J_iret dX7_alter_98 rfl (kN_i _) ?_
                first
                | (rw [hvk]; exact hq _ (hm.put hS (by omega) (ha.part hB z hj hk) rfl) (fun q hq0 => gs_wn _ _ hq0) rfl (fun q hq0 => by rw [gs_wk, pk_un (by omega)]))
                | (rw [nb_t] at c_77
                   rw [if_pos ⟨show nI k = 1 from c_69, c_77⟩] at hno
                   unfold sp_alter at hq
                   rw [hno, if_neg (by decide +kernel)] at hq
                   exact hq v hm (fun _ _ => rfl) rfl (fun _ _ => rfl))
              · refine J_aload_n (i := 0) (n := 73) dX7_alter_72 rfl rfl rfl ?_
                refine J_iload_n (i := 1) (n := 74) dX7_alter_73 rfl rfl rfl ?_
                refine J_callVr (n := 77) wS_X7_wasPaired (c_M_wasPaired (d + 11) ha0 hB hj ⟨rfl, rfl⟩) dX7_alter_74 wm_X7_226 ⟨wM_X7_wasPaired, wV_X7_wasPaired⟩ rfl (T_recv (by decide) (by first | assumption | decide)) rfl rfl (Nat.le_of_ble_eq_true rfl) rfl ?_
                refine J_if_eq (tgt := 85) (n := 80) dX7_alter_77 (by decide) rfl (fun c_77 => ?_) (fun c_77 => ?_)
                · have hn0 : sp_no S (nI j) (nI k) (nI z) = nI 0 := by
                    rw [hno, if_neg]
                    rintro ⟨q1, q2⟩
                    first
                    | exact c_69 q1
                    | (rw [nb_0, q2] at c_77; cases c_77)
                  unfold sp_alter at hq
                  rw [if_pos hn0, nat_nI (by omega), nat_nI (by omega), nat_nI (by omega)] at hq
                  have hvk : v.1 0 (12 + 4 * j + k) = nI (S.1.1.1 (k + 1) j) := by
                    obtain ⟨n0, n1, n2, n3⟩ := ha.2.1 j hj
                    rcases (show k = 0 ∨ k = 1 ∨ k = 2 by omega) with rfl | rfl | rfl
                    · exact n0
                    · refine n1 ?_
                      cases e : S.1.1.2.1 j with
                      | false => rfl
                      | true => rw [hno, if_pos ⟨rfl, e⟩] at hn0; exact absurd hn0 (by decide +kernel)
                    · exact n2
                  refine J_aload_n (i := 0) (n := 86) dX7_alter_85 rfl rfl rfl ?_
                  refine J_bipush (n := 88) dX7_alter_86 kB_12 rfl ?_
                  refine J_iconst (n := 89) dX7_alter_88 kI_4 rfl ?_
                  refine J_iload_n (i := 1) (n := 90) dX7_alter_89 rfl rfl rfl ?_
                  refine J_imul (n := 91) dX7_alter_90 rfl ?_
                  refine J_iadd (n := 92) dX7_alter_91 rfl ?_
                  refine J_iload_n (i := 2) (n := 93) dX7_alter_92 rfl rfl rfl ?_
                  refine J_iadd (n := 94) dX7_alter_93 rfl ?_
                  rw [pk_mul, nI_add, nI_add]
                  refine J_iload_n (i := 3) (n := 95) dX7_alter_94 rfl rfl rfl ?_
                  refine J_callVr (n := 98) wS_X7_becomes (c_M_becomes (d + 11) _ (by omega) ⟨rfl, rfl⟩) dX7_alter_95 wm_X7_229 ⟨wM_X7_becomes, wV_X7_becomes⟩ rfl (T_recv (by decide) (by first | assumption | decide)) rfl rfl (Nat.le_of_ble_eq_true rfl) rfl ?_
                  refine J_iret dX7_alter_98 rfl (kN_i _) ?_
                  first
                  | (rw [hvk]; exact hq _ (hm.put hS (by omega) (ha.part hB z hj hk) rfl) (fun q hq0 => gs_wn _ _ hq0) rfl (fun q hq0 => by rw [gs_wk, pk_un (by omega)]))
                  | (rw [nb_t] at c_77
                     rw [if_pos ⟨show nI k = 1 from c_69, c_77⟩] at hno
                     unfold sp_alter at hq
                     rw [hno, if_neg (by decide +kernel)] at hq
                     exact hq v hm (fun _ _ => rfl) rfl (fun _ _ => rfl))
                · refine J_bipush (n := 82) dX7_alter_80 kB_m2 rfl ?_
                  refine J_goto (tgt := 98) dX7_alter_82 (by decide) ?_
                  refine J_iret dX7_alter_98 rfl (kN_i _) ?_
                  first
                  | (rw [hvk]; exact hq _ (hm.put hS (by omega) (ha.part hB z hj hk) rfl) (fun q hq0 => gs_wn _ _ hq0) rfl (fun q hq0 => by rw [gs_wk, pk_un (by omega)]))
                  | (rw [nb_t] at c_77
                     rw [if_pos ⟨show nI k = 1 from c_69, c_77⟩] at hno
                     unfold sp_alter at hq
                     rw [hno, if_neg (by decide +kernel)] at hq
                     exact hq v hm (fun _ _ => rfl) rfl (fun _ _ => rfl))
            · refine J_iconst (n := 66) dX7_alter_65 kI_m1 rfl ?_
              refine J_iret dX7_alter_66 rfl (kN_i _) ?_
              have hn1 : sp_no S g w x = -1 := by
                unfold sp_no
                rw [if_neg (by first | (rw [nb_0] at c_57; rw [show isG S g = false from c_57, Bool.false_and]; decide) | (rw [nb_0] at c_62; rw [c_62, Bool.and_false]; decide))]
              unfold sp_alter at hq
              rw [hn1, if_neg (by decide +kernel)] at hq
              exact hq v hm (fun _ _ => rfl) rfl (fun _ _ => rfl)
        · refine J_iconst (n := 46) dX7_alter_45 kI_1 rfl ?_
          refine J_goto (tgt := 50) dX7_alter_46 (by decide) ?_
          first
          | rw [show nI (ix_in x 3).toNat = nI (grb w x).toNat from by rw [grb, if_pos c_1]]
          | rw [show nI (ix_in x 11).toNat = nI (grb w x).toNat from by rw [grb, if_neg c_1, if_pos (show w = 1 from c_18)]]
          | rw [show nI 1 = nI (grb w x).toNat from by rw [grb, if_neg c_1, if_neg (show ¬ w = 1 from c_18), if_pos (show w = 2 from c_30), (nb_t _).mp c_42]; rfl]
          | rw [show nI 0 = nI (grb w x).toNat from by rw [grb, if_neg c_1, if_neg (show ¬ w = 1 from c_18), if_pos (show w = 2 from c_30), (nb_0 _).mp c_42]; rfl]
          | rw [show nI 0 = nI (grb w x).toNat from by rw [grb, if_neg c_1, if_neg (show ¬ w = 1 from c_18), if_neg (show ¬ w = 2 from c_30)]; rfl]
          refine J_istore (i := 4) (n := 52) (lv' := [(0, _), (1, _), (2, _), (3, _), (4, _)]) dX7_alter_50 (by decide) rfl rfl ?_
          refine J_aload_n (i := 0) (n := 53) dX7_alter_52 rfl rfl rfl ?_
          refine J_iload_n (i := 1) (n := 54) dX7_alter_53 rfl rfl rfl ?_
          refine J_callVr (n := 57) wS_X7_isGlove (c_M_isGlove (d + 10) g (S.1.1.2.2 6) hgl0 (by omega) ⟨rfl, rfl⟩) dX7_alter_54 wm_X7_210 ⟨wM_X7_isGlove, wV_X7_isGlove⟩ rfl (T_recv (by decide) (by first | assumption | decide)) rfl rfl (Nat.le_of_ble_eq_true rfl) rfl ?_
          refine J_if_eq (tgt := 65) (n := 60) dX7_alter_57 (by decide) rfl (fun c_57 => ?_) (fun c_57 => ?_)
          · refine J_iconst (n := 66) dX7_alter_65 kI_m1 rfl ?_
            refine J_iret dX7_alter_66 rfl (kN_i _) ?_
            have hn1 : sp_no S g w x = -1 := by
              unfold sp_no
              rw [if_neg (by first | (rw [nb_0] at c_57; rw [show isG S g = false from c_57, Bool.false_and]; decide) | (rw [nb_0] at c_62; rw [c_62, Bool.and_false]; decide))]
            unfold sp_alter at hq
            rw [hn1, if_neg (by decide +kernel)] at hq
            exact hq v hm (fun _ _ => rfl) rfl (fun _ _ => rfl)
          · refine J_iload (i := 4) (n := 62) dX7_alter_60 rfl rfl ?_
            refine J_if_ne (tgt := 67) (n := 65) dX7_alter_62 (by decide) rfl (fun c_62 => ?_) (fun c_62 => ?_)
            · rw [nb_t] at c_57 c_62
              obtain ⟨j, hj, rfl⟩ := isG_of (S := S) c_57 hO
              obtain ⟨k, z, hk, hz, rfl, rfl, hk0, hk1⟩ := grb_of c_62
              have hno : sp_no S (nI j) (nI k) (nI z) = (if nI k = 1 ∧ S.1.1.2.1 j = true then -2 else nI 0) := by
                unfold sp_no
                rw [if_pos (by rw [show isG S (nI j) = true from c_57, c_62]; rfl), nat_nI (by omega)]
              refine J_iload_n (i := 2) (n := 68) dX7_alter_67 rfl rfl rfl ?_
              refine J_iconst (n := 69) dX7_alter_68 kI_1 rfl ?_
              refine J_icmp_ne (tgt := 85) (n := 72) dX7_alter_69 (by decide) rfl (fun c_69 => ?_) (fun c_69 => ?_)
              · have hn0 : sp_no S (nI j) (nI k) (nI z) = nI 0 := by
                  rw [hno, if_neg]
                  rintro ⟨q1, q2⟩
                  first
                  | exact c_69 q1
                  | (rw [nb_0, q2] at c_77; cases c_77)
                unfold sp_alter at hq
                rw [if_pos hn0, nat_nI (by omega), nat_nI (by omega), nat_nI (by omega)] at hq
                have hvk : v.1 0 (12 + 4 * j + k) = nI (S.1.1.1 (k + 1) j) := by
                  obtain ⟨n0, n1, n2, n3⟩ := ha.2.1 j hj
                  rcases (show k = 0 ∨ k = 1 ∨ k = 2 by omega) with rfl | rfl | rfl
                  · exact n0
                  · refine n1 ?_
                    cases e : S.1.1.2.1 j with
                    | false => rfl
                    | true => rw [hno, if_pos ⟨rfl, e⟩] at hn0; exact absurd hn0 (by decide +kernel)
                  · exact n2
                refine J_aload_n (i := 0) (n := 86) dX7_alter_85 rfl rfl rfl ?_
                refine J_bipush (n := 88) dX7_alter_86 kB_12 rfl ?_
                refine J_iconst (n := 89) dX7_alter_88 kI_4 rfl ?_
                refine J_iload_n (i := 1) (n := 90) dX7_alter_89 rfl rfl rfl ?_
                refine J_imul (n := 91) dX7_alter_90 rfl ?_
                refine J_iadd (n := 92) dX7_alter_91 rfl ?_
                refine J_iload_n (i := 2) (n := 93) dX7_alter_92 rfl rfl rfl ?_
                refine J_iadd (n := 94) dX7_alter_93 rfl ?_
                rw [pk_mul, nI_add, nI_add]
                refine J_iload_n (i := 3) (n := 95) dX7_alter_94 rfl rfl rfl ?_
                refine J_callVr (n := 98) wS_X7_becomes (c_M_becomes (d + 11) _ (by omega) ⟨rfl, rfl⟩) dX7_alter_95 wm_X7_229 ⟨wM_X7_becomes, wV_X7_becomes⟩ rfl (T_recv (by decide) (by first | assumption | decide)) rfl rfl (Nat.le_of_ble_eq_true rfl) rfl ?_
                refine J_iret dX7_alter_98 rfl (kN_i _) ?_
                first
                | (rw [hvk]; exact hq _ (hm.put hS (by omega) (ha.part hB z hj hk) rfl) (fun q hq0 => gs_wn _ _ hq0) rfl (fun q hq0 => by rw [gs_wk, pk_un (by omega)]))
                | (rw [nb_t] at c_77
                   rw [if_pos ⟨show nI k = 1 from c_69, c_77⟩] at hno
                   unfold sp_alter at hq
                   rw [hno, if_neg (by decide +kernel)] at hq
                   exact hq v hm (fun _ _ => rfl) rfl (fun _ _ => rfl))
              · refine J_aload_n (i := 0) (n := 73) dX7_alter_72 rfl rfl rfl ?_
                refine J_iload_n (i := 1) (n := 74) dX7_alter_73 rfl rfl rfl ?_
                refine J_callVr (n := 77) wS_X7_wasPaired (c_M_wasPaired (d + 11) ha0 hB hj ⟨rfl, rfl⟩) dX7_alter_74 wm_X7_226 ⟨wM_X7_wasPaired, wV_X7_wasPaired⟩ rfl (T_recv (by decide) (by first | assumption | decide)) rfl rfl (Nat.le_of_ble_eq_true rfl) rfl ?_
                refine J_if_eq (tgt := 85) (n := 80) dX7_alter_77 (by decide) rfl (fun c_77 => ?_) (fun c_77 => ?_)
                · have hn0 : sp_no S (nI j) (nI k) (nI z) = nI 0 := by
                    rw [hno, if_neg]
                    rintro ⟨q1, q2⟩
                    first
                    | exact c_69 q1
                    | (rw [nb_0, q2] at c_77; cases c_77)
                  unfold sp_alter at hq
                  rw [if_pos hn0, nat_nI (by omega), nat_nI (by omega), nat_nI (by omega)] at hq
                  have hvk : v.1 0 (12 + 4 * j + k) = nI (S.1.1.1 (k + 1) j) := by
                    obtain ⟨n0, n1, n2, n3⟩ := ha.2.1 j hj
                    rcases (show k = 0 ∨ k = 1 ∨ k = 2 by omega) with rfl | rfl | rfl
                    · exact n0
                    · refine n1 ?_
                      cases e : S.1.1.2.1 j with
                      | false => rfl
                      | true => rw [hno, if_pos ⟨rfl, e⟩] at hn0; exact absurd hn0 (by decide +kernel)
                    · exact n2
                  refine J_aload_n (i := 0) (n := 86) dX7_alter_85 rfl rfl rfl ?_
                  refine J_bipush (n := 88) dX7_alter_86 kB_12 rfl ?_
                  refine J_iconst (n := 89) dX7_alter_88 kI_4 rfl ?_
                  refine J_iload_n (i := 1) (n := 90) dX7_alter_89 rfl rfl rfl ?_
                  refine J_imul (n := 91) dX7_alter_90 rfl ?_
                  refine J_iadd (n := 92) dX7_alter_91 rfl ?_
                  refine J_iload_n (i := 2) (n := 93) dX7_alter_92 rfl rfl rfl ?_
                  refine J_iadd (n := 94) dX7_alter_93 rfl ?_
                  rw [pk_mul, nI_add, nI_add]
                  refine J_iload_n (i := 3) (n := 95) dX7_alter_94 rfl rfl rfl ?_
                  refine J_callVr (n := 98) wS_X7_becomes (c_M_becomes (d + 11) _ (by omega) ⟨rfl, rfl⟩) dX7_alter_95 wm_X7_229 ⟨wM_X7_becomes, wV_X7_becomes⟩ rfl (T_recv (by decide) (by first | assumption | decide)) rfl rfl (Nat.le_of_ble_eq_true rfl) rfl ?_
                  refine J_iret dX7_alter_98 rfl (kN_i _) ?_
                  first
                  | (rw [hvk]; exact hq _ (hm.put hS (by omega) (ha.part hB z hj hk) rfl) (fun q hq0 => gs_wn _ _ hq0) rfl (fun q hq0 => by rw [gs_wk, pk_un (by omega)]))
                  | (rw [nb_t] at c_77
                     rw [if_pos ⟨show nI k = 1 from c_69, c_77⟩] at hno
                     unfold sp_alter at hq
                     rw [hno, if_neg (by decide +kernel)] at hq
                     exact hq v hm (fun _ _ => rfl) rfl (fun _ _ => rfl))
                · refine J_bipush (n := 82) dX7_alter_80 kB_m2 rfl ?_
                  refine J_goto (tgt := 98) dX7_alter_82 (by decide) ?_
                  refine J_iret dX7_alter_98 rfl (kN_i _) ?_
                  first
                  | (rw [hvk]; exact hq _ (hm.put hS (by omega) (ha.part hB z hj hk) rfl) (fun q hq0 => gs_wn _ _ hq0) rfl (fun q hq0 => by rw [gs_wk, pk_un (by omega)]))
                  | (rw [nb_t] at c_77
                     rw [if_pos ⟨show nI k = 1 from c_69, c_77⟩] at hno
                     unfold sp_alter at hq
                     rw [hno, if_neg (by decide +kernel)] at hq
                     exact hq v hm (fun _ _ => rfl) rfl (fun _ _ => rfl))
            · refine J_iconst (n := 66) dX7_alter_65 kI_m1 rfl ?_
              refine J_iret dX7_alter_66 rfl (kN_i _) ?_
              have hn1 : sp_no S g w x = -1 := by
                unfold sp_no
                rw [if_neg (by first | (rw [nb_0] at c_57; rw [show isG S g = false from c_57, Bool.false_and]; decide) | (rw [nb_0] at c_62; rw [c_62, Bool.and_false]; decide))]
              unfold sp_alter at hq
              rw [hn1, if_neg (by decide +kernel)] at hq
              exact hq v hm (fun _ _ => rfl) rfl (fun _ _ => rfl)
    · refine J_iload_n (i := 3) (n := 22) dX7_alter_21 rfl rfl rfl ?_
      refine J_callSr (n := 25) wS_X7_isDoor (c_M_isDoor (d + 10) x ⟨rfl, rfl⟩) dX7_alter_22 wm_X7_213 wT_X7_isDoor rfl rfl (Nat.le_of_ble_eq_true rfl) rfl ?_
      refine J_goto (tgt := 50) dX7_alter_25 (by decide) ?_
      first
      | rw [show nI (ix_in x 3).toNat = nI (grb w x).toNat from by rw [grb, if_pos c_1]]
      | rw [show nI (ix_in x 11).toNat = nI (grb w x).toNat from by rw [grb, if_neg c_1, if_pos (show w = 1 from c_18)]]
      | rw [show nI 1 = nI (grb w x).toNat from by rw [grb, if_neg c_1, if_neg (show ¬ w = 1 from c_18), if_pos (show w = 2 from c_30), (nb_t _).mp c_42]; rfl]
      | rw [show nI 0 = nI (grb w x).toNat from by rw [grb, if_neg c_1, if_neg (show ¬ w = 1 from c_18), if_pos (show w = 2 from c_30), (nb_0 _).mp c_42]; rfl]
      | rw [show nI 0 = nI (grb w x).toNat from by rw [grb, if_neg c_1, if_neg (show ¬ w = 1 from c_18), if_neg (show ¬ w = 2 from c_30)]; rfl]
      refine J_istore (i := 4) (n := 52) (lv' := [(0, _), (1, _), (2, _), (3, _), (4, _)]) dX7_alter_50 (by decide) rfl rfl ?_
      refine J_aload_n (i := 0) (n := 53) dX7_alter_52 rfl rfl rfl ?_
      refine J_iload_n (i := 1) (n := 54) dX7_alter_53 rfl rfl rfl ?_
      refine J_callVr (n := 57) wS_X7_isGlove (c_M_isGlove (d + 10) g (S.1.1.2.2 6) hgl0 (by omega) ⟨rfl, rfl⟩) dX7_alter_54 wm_X7_210 ⟨wM_X7_isGlove, wV_X7_isGlove⟩ rfl (T_recv (by decide) (by first | assumption | decide)) rfl rfl (Nat.le_of_ble_eq_true rfl) rfl ?_
      refine J_if_eq (tgt := 65) (n := 60) dX7_alter_57 (by decide) rfl (fun c_57 => ?_) (fun c_57 => ?_)
      · refine J_iconst (n := 66) dX7_alter_65 kI_m1 rfl ?_
        refine J_iret dX7_alter_66 rfl (kN_i _) ?_
        have hn1 : sp_no S g w x = -1 := by
          unfold sp_no
          rw [if_neg (by first | (rw [nb_0] at c_57; rw [show isG S g = false from c_57, Bool.false_and]; decide) | (rw [nb_0] at c_62; rw [c_62, Bool.and_false]; decide))]
        unfold sp_alter at hq
        rw [hn1, if_neg (by decide +kernel)] at hq
        exact hq v hm (fun _ _ => rfl) rfl (fun _ _ => rfl)
      · refine J_iload (i := 4) (n := 62) dX7_alter_60 rfl rfl ?_
        refine J_if_ne (tgt := 67) (n := 65) dX7_alter_62 (by decide) rfl (fun c_62 => ?_) (fun c_62 => ?_)
        · rw [nb_t] at c_57 c_62
          obtain ⟨j, hj, rfl⟩ := isG_of (S := S) c_57 hO
          obtain ⟨k, z, hk, hz, rfl, rfl, hk0, hk1⟩ := grb_of c_62
          have hno : sp_no S (nI j) (nI k) (nI z) = (if nI k = 1 ∧ S.1.1.2.1 j = true then -2 else nI 0) := by
            unfold sp_no
            rw [if_pos (by rw [show isG S (nI j) = true from c_57, c_62]; rfl), nat_nI (by omega)]
          refine J_iload_n (i := 2) (n := 68) dX7_alter_67 rfl rfl rfl ?_
          refine J_iconst (n := 69) dX7_alter_68 kI_1 rfl ?_
          refine J_icmp_ne (tgt := 85) (n := 72) dX7_alter_69 (by decide) rfl (fun c_69 => ?_) (fun c_69 => ?_)
          · have hn0 : sp_no S (nI j) (nI k) (nI z) = nI 0 := by
              rw [hno, if_neg]
              rintro ⟨q1, q2⟩
              first
              | exact c_69 q1
              | (rw [nb_0, q2] at c_77; cases c_77)
            unfold sp_alter at hq
            rw [if_pos hn0, nat_nI (by omega), nat_nI (by omega), nat_nI (by omega)] at hq
            have hvk : v.1 0 (12 + 4 * j + k) = nI (S.1.1.1 (k + 1) j) := by
              obtain ⟨n0, n1, n2, n3⟩ := ha.2.1 j hj
              rcases (show k = 0 ∨ k = 1 ∨ k = 2 by omega) with rfl | rfl | rfl
              · exact n0
              · refine n1 ?_
                cases e : S.1.1.2.1 j with
                | false => rfl
                | true => rw [hno, if_pos ⟨rfl, e⟩] at hn0; exact absurd hn0 (by decide +kernel)
              · exact n2
            refine J_aload_n (i := 0) (n := 86) dX7_alter_85 rfl rfl rfl ?_
            refine J_bipush (n := 88) dX7_alter_86 kB_12 rfl ?_
            refine J_iconst (n := 89) dX7_alter_88 kI_4 rfl ?_
            refine J_iload_n (i := 1) (n := 90) dX7_alter_89 rfl rfl rfl ?_
            refine J_imul (n := 91) dX7_alter_90 rfl ?_
            refine J_iadd (n := 92) dX7_alter_91 rfl ?_
            refine J_iload_n (i := 2) (n := 93) dX7_alter_92 rfl rfl rfl ?_
            refine J_iadd (n := 94) dX7_alter_93 rfl ?_
            rw [pk_mul, nI_add, nI_add]
            refine J_iload_n (i := 3) (n := 95) dX7_alter_94 rfl rfl rfl ?_
            refine J_callVr (n := 98) wS_X7_becomes (c_M_becomes (d + 11) _ (by omega) ⟨rfl, rfl⟩) dX7_alter_95 wm_X7_229 ⟨wM_X7_becomes, wV_X7_becomes⟩ rfl (T_recv (by decide) (by first | assumption | decide)) rfl rfl (Nat.le_of_ble_eq_true rfl) rfl ?_
            refine J_iret dX7_alter_98 rfl (kN_i _) ?_
            first
            | (rw [hvk]; exact hq _ (hm.put hS (by omega) (ha.part hB z hj hk) rfl) (fun q hq0 => gs_wn _ _ hq0) rfl (fun q hq0 => by rw [gs_wk, pk_un (by omega)]))
            | (rw [nb_t] at c_77
               rw [if_pos ⟨show nI k = 1 from c_69, c_77⟩] at hno
               unfold sp_alter at hq
               rw [hno, if_neg (by decide +kernel)] at hq
               exact hq v hm (fun _ _ => rfl) rfl (fun _ _ => rfl))
          · refine J_aload_n (i := 0) (n := 73) dX7_alter_72 rfl rfl rfl ?_
            refine J_iload_n (i := 1) (n := 74) dX7_alter_73 rfl rfl rfl ?_
            refine J_callVr (n := 77) wS_X7_wasPaired (c_M_wasPaired (d + 11) ha0 hB hj ⟨rfl, rfl⟩) dX7_alter_74 wm_X7_226 ⟨wM_X7_wasPaired, wV_X7_wasPaired⟩ rfl (T_recv (by decide) (by first | assumption | decide)) rfl rfl (Nat.le_of_ble_eq_true rfl) rfl ?_
            refine J_if_eq (tgt := 85) (n := 80) dX7_alter_77 (by decide) rfl (fun c_77 => ?_) (fun c_77 => ?_)
            · have hn0 : sp_no S (nI j) (nI k) (nI z) = nI 0 := by
                rw [hno, if_neg]
                rintro ⟨q1, q2⟩
                first
                | exact c_69 q1
                | (rw [nb_0, q2] at c_77; cases c_77)
              unfold sp_alter at hq
              rw [if_pos hn0, nat_nI (by omega), nat_nI (by omega), nat_nI (by omega)] at hq
              have hvk : v.1 0 (12 + 4 * j + k) = nI (S.1.1.1 (k + 1) j) := by
                obtain ⟨n0, n1, n2, n3⟩ := ha.2.1 j hj
                rcases (show k = 0 ∨ k = 1 ∨ k = 2 by omega) with rfl | rfl | rfl
                · exact n0
                · refine n1 ?_
                  cases e : S.1.1.2.1 j with
                  | false => rfl
                  | true => rw [hno, if_pos ⟨rfl, e⟩] at hn0; exact absurd hn0 (by decide +kernel)
                · exact n2
              refine J_aload_n (i := 0) (n := 86) dX7_alter_85 rfl rfl rfl ?_
              refine J_bipush (n := 88) dX7_alter_86 kB_12 rfl ?_
              refine J_iconst (n := 89) dX7_alter_88 kI_4 rfl ?_
              refine J_iload_n (i := 1) (n := 90) dX7_alter_89 rfl rfl rfl ?_
              refine J_imul (n := 91) dX7_alter_90 rfl ?_
              refine J_iadd (n := 92) dX7_alter_91 rfl ?_
              refine J_iload_n (i := 2) (n := 93) dX7_alter_92 rfl rfl rfl ?_
              refine J_iadd (n := 94) dX7_alter_93 rfl ?_
              rw [pk_mul, nI_add, nI_add]
              refine J_iload_n (i := 3) (n := 95) dX7_alter_94 rfl rfl rfl ?_
              refine J_callVr (n := 98) wS_X7_becomes (c_M_becomes (d + 11) _ (by omega) ⟨rfl, rfl⟩) dX7_alter_95 wm_X7_229 ⟨wM_X7_becomes, wV_X7_becomes⟩ rfl (T_recv (by decide) (by first | assumption | decide)) rfl rfl (Nat.le_of_ble_eq_true rfl) rfl ?_
              refine J_iret dX7_alter_98 rfl (kN_i _) ?_
              first
              | (rw [hvk]; exact hq _ (hm.put hS (by omega) (ha.part hB z hj hk) rfl) (fun q hq0 => gs_wn _ _ hq0) rfl (fun q hq0 => by rw [gs_wk, pk_un (by omega)]))
              | (rw [nb_t] at c_77
                 rw [if_pos ⟨show nI k = 1 from c_69, c_77⟩] at hno
                 unfold sp_alter at hq
                 rw [hno, if_neg (by decide +kernel)] at hq
                 exact hq v hm (fun _ _ => rfl) rfl (fun _ _ => rfl))
            · refine J_bipush (n := 82) dX7_alter_80 kB_m2 rfl ?_
              refine J_goto (tgt := 98) dX7_alter_82 (by decide) ?_
              refine J_iret dX7_alter_98 rfl (kN_i _) ?_
              first
              | (rw [hvk]; exact hq _ (hm.put hS (by omega) (ha.part hB z hj hk) rfl) (fun q hq0 => gs_wn _ _ hq0) rfl (fun q hq0 => by rw [gs_wk, pk_un (by omega)]))
              | (rw [nb_t] at c_77
                 rw [if_pos ⟨show nI k = 1 from c_69, c_77⟩] at hno
                 unfold sp_alter at hq
                 rw [hno, if_neg (by decide +kernel)] at hq
                 exact hq v hm (fun _ _ => rfl) rfl (fun _ _ => rfl))
        · refine J_iconst (n := 66) dX7_alter_65 kI_m1 rfl ?_
          refine J_iret dX7_alter_66 rfl (kN_i _) ?_
          have hn1 : sp_no S g w x = -1 := by
            unfold sp_no
            rw [if_neg (by first | (rw [nb_0] at c_57; rw [show isG S g = false from c_57, Bool.false_and]; decide) | (rw [nb_0] at c_62; rw [c_62, Bool.and_false]; decide))]
          unfold sp_alter at hq
          rw [hn1, if_neg (by decide +kernel)] at hq
          exact hq v hm (fun _ _ => rfl) rfl (fun _ _ => rfl)
  · refine J_iload_n (i := 3) (n := 5) dX7_alter_4 rfl rfl rfl ?_
    refine J_i2l (n := 6) dX7_alter_5 rfl ?_
    refine J_lconst (n := 7) dX7_alter_6 kL_0 rfl ?_
    refine J_ldc2 (n := 10) dX7_alter_7 wd_X7_222 rfl ?_
    refine J_callSr (n := 13) wS_X7_in (c_M_in (d + 11) x 3 (by decide) ⟨rfl, rfl⟩) dX7_alter_10 wm_X7_72 wT_X7_in rfl rfl (Nat.le_of_ble_eq_true rfl) rfl ?_
    refine J_goto (tgt := 50) dX7_alter_13 (by decide) ?_
    first
    | rw [show nI (ix_in x 3).toNat = nI (grb w x).toNat from by rw [grb, if_pos c_1]]
    | rw [show nI (ix_in x 11).toNat = nI (grb w x).toNat from by rw [grb, if_neg c_1, if_pos (show w = 1 from c_18)]]
    | rw [show nI 1 = nI (grb w x).toNat from by rw [grb, if_neg c_1, if_neg (show ¬ w = 1 from c_18), if_pos (show w = 2 from c_30), (nb_t _).mp c_42]; rfl]
    | rw [show nI 0 = nI (grb w x).toNat from by rw [grb, if_neg c_1, if_neg (show ¬ w = 1 from c_18), if_pos (show w = 2 from c_30), (nb_0 _).mp c_42]; rfl]
    | rw [show nI 0 = nI (grb w x).toNat from by rw [grb, if_neg c_1, if_neg (show ¬ w = 1 from c_18), if_neg (show ¬ w = 2 from c_30)]; rfl]
    refine J_istore (i := 4) (n := 52) (lv' := [(0, _), (1, _), (2, _), (3, _), (4, _)]) dX7_alter_50 (by decide) rfl rfl ?_
    refine J_aload_n (i := 0) (n := 53) dX7_alter_52 rfl rfl rfl ?_
    refine J_iload_n (i := 1) (n := 54) dX7_alter_53 rfl rfl rfl ?_
    refine J_callVr (n := 57) wS_X7_isGlove (c_M_isGlove (d + 10) g (S.1.1.2.2 6) hgl0 (by omega) ⟨rfl, rfl⟩) dX7_alter_54 wm_X7_210 ⟨wM_X7_isGlove, wV_X7_isGlove⟩ rfl (T_recv (by decide) (by first | assumption | decide)) rfl rfl (Nat.le_of_ble_eq_true rfl) rfl ?_
    refine J_if_eq (tgt := 65) (n := 60) dX7_alter_57 (by decide) rfl (fun c_57 => ?_) (fun c_57 => ?_)
    · refine J_iconst (n := 66) dX7_alter_65 kI_m1 rfl ?_
      refine J_iret dX7_alter_66 rfl (kN_i _) ?_
      have hn1 : sp_no S g w x = -1 := by
        unfold sp_no
        rw [if_neg (by first | (rw [nb_0] at c_57; rw [show isG S g = false from c_57, Bool.false_and]; decide) | (rw [nb_0] at c_62; rw [c_62, Bool.and_false]; decide))]
      unfold sp_alter at hq
      rw [hn1, if_neg (by decide +kernel)] at hq
      exact hq v hm (fun _ _ => rfl) rfl (fun _ _ => rfl)
    · refine J_iload (i := 4) (n := 62) dX7_alter_60 rfl rfl ?_
      refine J_if_ne (tgt := 67) (n := 65) dX7_alter_62 (by decide) rfl (fun c_62 => ?_) (fun c_62 => ?_)
      · rw [nb_t] at c_57 c_62
        obtain ⟨j, hj, rfl⟩ := isG_of (S := S) c_57 hO
        obtain ⟨k, z, hk, hz, rfl, rfl, hk0, hk1⟩ := grb_of c_62
        have hno : sp_no S (nI j) (nI k) (nI z) = (if nI k = 1 ∧ S.1.1.2.1 j = true then -2 else nI 0) := by
          unfold sp_no
          rw [if_pos (by rw [show isG S (nI j) = true from c_57, c_62]; rfl), nat_nI (by omega)]
        refine J_iload_n (i := 2) (n := 68) dX7_alter_67 rfl rfl rfl ?_
        refine J_iconst (n := 69) dX7_alter_68 kI_1 rfl ?_
        refine J_icmp_ne (tgt := 85) (n := 72) dX7_alter_69 (by decide) rfl (fun c_69 => ?_) (fun c_69 => ?_)
        · have hn0 : sp_no S (nI j) (nI k) (nI z) = nI 0 := by
            rw [hno, if_neg]
            rintro ⟨q1, q2⟩
            first
            | exact c_69 q1
            | (rw [nb_0, q2] at c_77; cases c_77)
          unfold sp_alter at hq
          rw [if_pos hn0, nat_nI (by omega), nat_nI (by omega), nat_nI (by omega)] at hq
          have hvk : v.1 0 (12 + 4 * j + k) = nI (S.1.1.1 (k + 1) j) := by
            obtain ⟨n0, n1, n2, n3⟩ := ha.2.1 j hj
            rcases (show k = 0 ∨ k = 1 ∨ k = 2 by omega) with rfl | rfl | rfl
            · exact n0
            · refine n1 ?_
              cases e : S.1.1.2.1 j with
              | false => rfl
              | true => rw [hno, if_pos ⟨rfl, e⟩] at hn0; exact absurd hn0 (by decide +kernel)
            · exact n2
          refine J_aload_n (i := 0) (n := 86) dX7_alter_85 rfl rfl rfl ?_
          refine J_bipush (n := 88) dX7_alter_86 kB_12 rfl ?_
          refine J_iconst (n := 89) dX7_alter_88 kI_4 rfl ?_
          refine J_iload_n (i := 1) (n := 90) dX7_alter_89 rfl rfl rfl ?_
          refine J_imul (n := 91) dX7_alter_90 rfl ?_
          refine J_iadd (n := 92) dX7_alter_91 rfl ?_
          refine J_iload_n (i := 2) (n := 93) dX7_alter_92 rfl rfl rfl ?_
          refine J_iadd (n := 94) dX7_alter_93 rfl ?_
          rw [pk_mul, nI_add, nI_add]
          refine J_iload_n (i := 3) (n := 95) dX7_alter_94 rfl rfl rfl ?_
          refine J_callVr (n := 98) wS_X7_becomes (c_M_becomes (d + 11) _ (by omega) ⟨rfl, rfl⟩) dX7_alter_95 wm_X7_229 ⟨wM_X7_becomes, wV_X7_becomes⟩ rfl (T_recv (by decide) (by first | assumption | decide)) rfl rfl (Nat.le_of_ble_eq_true rfl) rfl ?_
          refine J_iret dX7_alter_98 rfl (kN_i _) ?_
          first
          | (rw [hvk]; exact hq _ (hm.put hS (by omega) (ha.part hB z hj hk) rfl) (fun q hq0 => gs_wn _ _ hq0) rfl (fun q hq0 => by rw [gs_wk, pk_un (by omega)]))
          | (rw [nb_t] at c_77
             rw [if_pos ⟨show nI k = 1 from c_69, c_77⟩] at hno
             unfold sp_alter at hq
             rw [hno, if_neg (by decide +kernel)] at hq
             exact hq v hm (fun _ _ => rfl) rfl (fun _ _ => rfl))
        · refine J_aload_n (i := 0) (n := 73) dX7_alter_72 rfl rfl rfl ?_
          refine J_iload_n (i := 1) (n := 74) dX7_alter_73 rfl rfl rfl ?_
          refine J_callVr (n := 77) wS_X7_wasPaired (c_M_wasPaired (d + 11) ha0 hB hj ⟨rfl, rfl⟩) dX7_alter_74 wm_X7_226 ⟨wM_X7_wasPaired, wV_X7_wasPaired⟩ rfl (T_recv (by decide) (by first | assumption | decide)) rfl rfl (Nat.le_of_ble_eq_true rfl) rfl ?_
          refine J_if_eq (tgt := 85) (n := 80) dX7_alter_77 (by decide) rfl (fun c_77 => ?_) (fun c_77 => ?_)
          · have hn0 : sp_no S (nI j) (nI k) (nI z) = nI 0 := by
              rw [hno, if_neg]
              rintro ⟨q1, q2⟩
              first
              | exact c_69 q1
              | (rw [nb_0, q2] at c_77; cases c_77)
            unfold sp_alter at hq
            rw [if_pos hn0, nat_nI (by omega), nat_nI (by omega), nat_nI (by omega)] at hq
            have hvk : v.1 0 (12 + 4 * j + k) = nI (S.1.1.1 (k + 1) j) := by
              obtain ⟨n0, n1, n2, n3⟩ := ha.2.1 j hj
              rcases (show k = 0 ∨ k = 1 ∨ k = 2 by omega) with rfl | rfl | rfl
              · exact n0
              · refine n1 ?_
                cases e : S.1.1.2.1 j with
                | false => rfl
                | true => rw [hno, if_pos ⟨rfl, e⟩] at hn0; exact absurd hn0 (by decide +kernel)
              · exact n2
            refine J_aload_n (i := 0) (n := 86) dX7_alter_85 rfl rfl rfl ?_
            refine J_bipush (n := 88) dX7_alter_86 kB_12 rfl ?_
            refine J_iconst (n := 89) dX7_alter_88 kI_4 rfl ?_
            refine J_iload_n (i := 1) (n := 90) dX7_alter_89 rfl rfl rfl ?_
            refine J_imul (n := 91) dX7_alter_90 rfl ?_
            refine J_iadd (n := 92) dX7_alter_91 rfl ?_
            refine J_iload_n (i := 2) (n := 93) dX7_alter_92 rfl rfl rfl ?_
            refine J_iadd (n := 94) dX7_alter_93 rfl ?_
            rw [pk_mul, nI_add, nI_add]
            refine J_iload_n (i := 3) (n := 95) dX7_alter_94 rfl rfl rfl ?_
            refine J_callVr (n := 98) wS_X7_becomes (c_M_becomes (d + 11) _ (by omega) ⟨rfl, rfl⟩) dX7_alter_95 wm_X7_229 ⟨wM_X7_becomes, wV_X7_becomes⟩ rfl (T_recv (by decide) (by first | assumption | decide)) rfl rfl (Nat.le_of_ble_eq_true rfl) rfl ?_
            refine J_iret dX7_alter_98 rfl (kN_i _) ?_
            first
            | (rw [hvk]; exact hq _ (hm.put hS (by omega) (ha.part hB z hj hk) rfl) (fun q hq0 => gs_wn _ _ hq0) rfl (fun q hq0 => by rw [gs_wk, pk_un (by omega)]))
            | (rw [nb_t] at c_77
               rw [if_pos ⟨show nI k = 1 from c_69, c_77⟩] at hno
               unfold sp_alter at hq
               rw [hno, if_neg (by decide +kernel)] at hq
               exact hq v hm (fun _ _ => rfl) rfl (fun _ _ => rfl))
          · refine J_bipush (n := 82) dX7_alter_80 kB_m2 rfl ?_
            refine J_goto (tgt := 98) dX7_alter_82 (by decide) ?_
            refine J_iret dX7_alter_98 rfl (kN_i _) ?_
            first
            | (rw [hvk]; exact hq _ (hm.put hS (by omega) (ha.part hB z hj hk) rfl) (fun q hq0 => gs_wn _ _ hq0) rfl (fun q hq0 => by rw [gs_wk, pk_un (by omega)]))
            | (rw [nb_t] at c_77
               rw [if_pos ⟨show nI k = 1 from c_69, c_77⟩] at hno
               unfold sp_alter at hq
               rw [hno, if_neg (by decide +kernel)] at hq
               exact hq v hm (fun _ _ => rfl) rfl (fun _ _ => rfl))
      · refine J_iconst (n := 66) dX7_alter_65 kI_m1 rfl ?_
        refine J_iret dX7_alter_66 rfl (kN_i _) ?_
        have hn1 : sp_no S g w x = -1 := by
          unfold sp_no
          rw [if_neg (by first | (rw [nb_0] at c_57; rw [show isG S g = false from c_57, Bool.false_and]; decide) | (rw [nb_0] at c_62; rw [c_62, Bool.and_false]; decide))]
        unfold sp_alter at hq
        rw [hn1, if_neg (by decide +kernel)] at hq
        exact hq v hm (fun _ _ => rfl) rfl (fun _ _ => rfl)

theorem SOk_put {S : pS} {p : pw} (hS : SOk S) (h1 : pOk p) (h2 : coh p) (h3 : p.2.2 6 = S.1.1.2.2 6) (h4 : p.2.2 10 ≤ 999) : SOk (pS_p S p) := by
  obtain ⟨⟨a1, a2, a3, a4⟩, b, c, d⟩ := hS
  refine ⟨⟨h1, h2, h4, ?_⟩, fun k hk hb => ?_, c, d⟩
  · show sOk S.1.2 (p.2.2 6)
    rw [h3]; exact a4
  · refine ⟨(b k hk hb).1, ?_⟩
    show (S.2.2.1 k).1.2.2 6 = p.2.2 6
    rw [h3]; exact (b k hk hb).2
theorem coh_at {p : pw} (h : coh p) {g z : Nat} (hg : p.2.1 g = false) : coh (pw_a p 2 g z) := by
  intro j hj h1
  have h1 : p.2.1 j = true := h1
  show (if 2 = 2 ∧ j = g then z else p.1 2 j) = p.2.2 8
  have hne : j ≠ g := fun e => by rw [e, hg] at h1; cases h1
  rw [if_neg (fun q => hne q.2)]
  exact h j hj h1
theorem rap_ok {S : pS} {x : (Nat → Int32) × Nat × Nat} {f : Int32} (hS : SOk S) (w : Nat) (h : okU S x f w) : pOk (rap S x f w) ∧ coh (rap S x f w) := by
  induction w with
  | zero => exact ⟨hS.1.1, hS.1.2.1⟩
  | succ w ih =>
    obtain ⟨i1, i2⟩ := ih (fun j hj => h j (by omega))
    obtain ⟨m, hfm, hm40, hno⟩ := h w (by omega)
    obtain ⟨j, z, hj, hz, ej, ez, hpz⟩ := no_of hno hS.1.1
    have hj4 : S.1.1.2.2 6 ≤ 4 := hS.1.1.2.2.2.2.1
    have hnf : nat f = m := by rw [hfm]; exact nat_nI (by omega)
    show pOk (pw_a (rap S x f w) 2 (nat (x.1 (nat f + 2 * w))) (nat (x.1 (nat f + 2 * w + 1)))) ∧ coh (pw_a (rap S x f w) 2 (nat (x.1 (nat f + 2 * w))) (nat (x.1 (nat f + 2 * w + 1))))
    rw [hnf, ej, ez, nat_nI (by omega), nat_nI (by omega)]
    exact ⟨pw_a_ok i1 (by omega), coh_at i2 (by rw [rap_2]; exact hpz)⟩
theorem rap_SOk {S : pS} {x : (Nat → Int32) × Nat × Nat} {f : Int32} (hS : SOk S) (w : Nat) (h : okU S x f w) : SOk (pS_p S (rap S x f w)) := SOk_put hS (rap_ok hS w h).1 (rap_ok hS w h).2 (by rw [rap_2]) (by rw [rap_2]; exact hS.1.2.2.1)
theorem no_rap (S : pS) (x : (Nat → Int32) × Nat × Nat) (f : Int32) (i : Nat) (g w z : Int32) : sp_no (pS_p S (rap S x f i)) g w z = sp_no S g w z := by
  unfold sp_no isG
  show (if ((!decide ((rap S x f i).2.2 6 = 0) && ix_in g ((rap S x f i).2.2 6 - 1)) && grb w z) = true then (if w = 1 ∧ (rap S x f i).2.1 (nat g) = true then -2 else nI 0) else -1) = _
  rw [rap_2]
theorem no_neg {S : pS} {g w z : Int32} (h : ¬ sp_no S g w z = nI 0) : sp_no S g w z < 0 := by
  unfold sp_no at h ⊢
  split
  · next hb =>
    rw [if_pos hb] at h
    split
    · decide +kernel
    · next hc => rw [if_neg hc] at h; exact absurd rfl h
  · decide +kernel
theorem ls_sum {x : (Nat → Int32) × Nat × Nat} {f : Int32} {i : Nat} (hi : ivx x f i) (h40 : x.2.2 ≤ 40) : f.toInt64 + (nI (2 * i)).toInt64 = (f + nI (2 * i)).toInt64 := by
  rcases hi with rfl | ⟨m, rfl, hm⟩
  · show f.toInt64 + (nI 0).toInt64 = (f + 0).toInt64
    rw [Int32.add_zero, show (nI 0).toInt64 = 0 from by decide +kernel, Int64.add_zero]
  · rw [nI_add, nI_l (by omega), nI_l (by omega), nI_l (by omega), lN_add]
theorem in_iff {v : Int32} {n : Nat} (hn : n ≤ 40) : (!decide (n = 0) && ix_in v (n - 1)) = true ↔ ¬ v.toInt64 < lN 0 ∧ v.toInt64 < lN n := by
  have g0 : v.toInt64 < lN 0 ↔ v < 0 := by rw [← nI_l (by decide), l_lt]; exact Iff.rfl
  have g1 : v.toInt64 < lN n ↔ v < nI n := by rw [← nI_l (by omega), l_lt]
  rw [g0, g1]
  constructor
  · intro h
    obtain ⟨j, hj, rfl⟩ := ix1_of h (by omega)
    exact ⟨nI_pos (by omega), nI_lt hj (by omega)⟩
  · rintro ⟨h1, h2⟩
    obtain ⟨j, hj, rfl⟩ := nI_of h1
    rw [nI_ltI hj (by omega)] at h2
    rw [ix_nI (by omega) (by omega)]
    simp only [Bool.and_eq_true, Bool.not_eq_true', decide_eq_false_iff_not, decide_eq_true_eq]
    omega
theorem mR.fault {v : gs_Ob} {S : pS} (h : mR v S) (x : Nat) : mR (gs_f v 28 (nI x)) (pS_f S 1 x) := by
  obtain ⟨k1, k2, k3, k4, k5⟩ := h
  have e : ∀ q, q ≠ 28 → (gs_f v 28 (nI x)).2.1 q = v.2.1 q := fun q hq => by simp [gs_f, upd, hq]
  refine ⟨⟨k1.1, k1.2.1, by rw [e 3 (by decide)]; exact k1.2.2⟩, k2, ⟨k3.1, by rw [e 11 (by decide)]; exact k3.2⟩, ⟨by rw [e 16 (by decide)]; simp [pS_f]; exact k4.1, by simp [gs_f, upd, pS_f]⟩, k5⟩
set_option maxHeartbeats 4000000 in
set_option maxRecDepth 100000 in
theorem c_N_read {G : gx_G} {σ : gs_S} {Q : Option Value → gx_Hp → Prop} {S : pS} {v : gs_Ob} (d : Nat) (x y f z : Int32) (hS : SOk S) (hm : mR v S) (hq : ∀ v1, mR v1 (sp_read S x y f z).2 → Q (some (.int (sp_read S x y f z).1)) (hp G (gs_set σ 7 0 v1))) : gx_K G yX7_read mX7_read (d + 14) 0 0 [.ref (gs_a G 7 0 0), .int x, .int y, .int f, .int z] (hp G (gs_set σ 7 0 v)) Q := by
  obtain ⟨⟨ha, hsn, hgl⟩, hkm, htp, hft, hsh⟩ := id hm
  have hO := hS.1.1
  have hB := hO.aB
  have h4 : S.1.1.2.2 6 ≤ 4 := hO.2.2.2.2.1
  have h6 : S.1.1.2.2 7 ≤ 6 := hO.2.2.2.2.2.1
  have hm11 : S.1.1.2.2 8 ≤ 11 := hO.2.2.2.2.2.2.1
  have hn9 : S.1.1.2.2 9 ≤ 9999 := hO.2.2.2.2.2.2.2
  have hd9 : S.1.1.2.2 10 ≤ 999 := hS.1.2.2.1
  have h160 : S.2.2.2.1.2 ≤ 160 := hS.2.2.1.1
  have e28 := ha.2.2.2.1
  have e29 := ha.2.2.2.2.1
  have e36 := ha.2.2.2.2.2.1
  have e37 := ha.2.2.2.2.2.2
  have g0 : gs_set σ 7 0 v 7 0 = v := gs_same _ _ _ _
  have hgl0 : (gs_set σ 7 0 v 7 0).2.1 3 = nI (S.1.1.2.2 6) := by rw [g0]; exact hgl
  have ha0 : aR ((gs_set σ 7 0 v 7 0).1 0) S.1.1 := by rw [g0]; exact ha
  refine gx_K.of' (lv := [(0, _), (1, _), (2, _), (3, _), (4, _)]) (by decide) rfl (by decide) (Nat.le_of_ble_eq_true rfl) rfl ?_
  refine J_iload_n (i := 1) (n := 1) dX7_read_0 rfl rfl rfl ?_
  refine J_iload_n (i := 2) (n := 2) dX7_read_1 rfl rfl rfl ?_
  refine J_callSr (n := 5) wS_X7_isSheet (c_M_isSheet (d + 12) x y ⟨rfl, rfl⟩) dX7_read_2 wm_X7_308 wT_X7_isSheet rfl rfl (Nat.le_of_ble_eq_true rfl) rfl ?_
  refine J_if_eq (tgt := 21) (n := 8) dX7_read_5 (by decide) rfl (fun c_5 => ?_) (fun c_5 => ?_)
  · refine J_iconst (n := 22) dX7_read_21 kI_m1 rfl ?_
    refine J_iret dX7_read_22 rfl (kN_i _) ?_
    unfold sp_read at hq
    rw [← Bool.and_assoc, if_neg (by
      first
      | (rw [nb_0] at c_5; rw [c_5, Bool.false_and]; decide)
      | (rw [nb_0] at c_18; rw [c_18, Bool.and_false]; decide))] at hq
    exact hq v hm
  · refine J_iload (i := 4) (n := 10) dX7_read_8 rfl rfl ?_
    refine J_i2l (n := 11) dX7_read_10 rfl ?_
    refine J_lconst (n := 12) dX7_read_11 kL_0 rfl ?_
    refine J_ldc2 (n := 15) dX7_read_12 wd_X7_224 rfl ?_
    refine J_callSr (n := 18) wS_X7_in (c_M_in (d + 13) z 20 (by decide) ⟨rfl, rfl⟩) dX7_read_15 wm_X7_72 wT_X7_in rfl rfl (Nat.le_of_ble_eq_true rfl) rfl ?_
    refine J_if_ne (tgt := 23) (n := 21) dX7_read_18 (by decide) rfl (fun c_18 => ?_) (fun c_18 => ?_)
    · rw [nb_t] at c_5 c_18
      unfold sp_read at hq
      rw [← Bool.and_assoc, if_pos (by rw [c_5, c_18]; rfl)] at hq
      rw [Bool.and_eq_true] at c_5
      obtain ⟨k, hk3, rfl⟩ := ix_of c_5.1 (by decide)
      obtain ⟨l, hl2, rfl⟩ := ix_of c_5.2 (by decide)
      obtain ⟨n, hn20, rfl⟩ := ix_of c_18 (by decide)
      rw [nat_nI (by omega), nat_nI (by omega), nat_nI (by omega)] at hq
      obtain ⟨hxc, hxl, hxz⟩ := hsh k (by omega)
      obtain ⟨hx40, hxb⟩ := hS.2.2.2 k (by omega)
      refine J_iconst (n := 24) dX7_read_23 kI_0 rfl ?_
      refine J_istore (i := 5) (n := 26) (lv' := [(0, _), (1, _), (2, _), (3, _), (4, _), (5, _)]) dX7_read_24 (by decide) rfl rfl ?_
      have h9 : (if (S.2.2.2.2.2 k).2.1 = 9 then (-4 : Int32) else nI (S.2.2.2.2.2 k).2.1) = -4 ↔ (S.2.2.2.2.2 k).2.1 = 9 := by
        by_cases e9 : (S.2.2.2.2.2 k).2.1 = 9
        · rw [if_pos e9]; exact ⟨fun _ => e9, fun _ => rfl⟩
        · rw [if_neg e9]; exact ⟨fun q => absurd (by rw [q]; decide +kernel : nI (S.2.2.2.2.2 k).2.1 < 0) (nI_pos (by omega)), fun q => absurd q e9⟩
      have rst : ∀ u e i fd wh c v1, 57 - e < u → e ≤ 57 → mR v S → (∀ q, q < e → v1.1 0 q = v.1 0 q) → (∀ q, q < 57 → v1.1 29 q = v.1 0 q) → (∀ q, 57 ≤ q → v1.1 0 q = v.1 0 q) → (∀ j, j ≠ 0 → j ≠ 29 → v1.1 j = v.1 j) → v1.2 = v.2 → rk S (S.2.2.2.2.2 k) l f n 0 = .inr i → gx_J G mX7_read (d + 14) 0 0 Q 209 [(0, .ref (gs_a G 7 0 0)), (1, .int (nI k)), (2, .int (nI l)), (3, .int f), (4, .int (nI n)), (5, .int (nI fd)), (6, .int (nI wh)), (7, .int (nI i)), (8, .int (nI c)), (9, .int (nI e))] [] (hp G (gs_set σ 7 0 v1)) := by
        intro u
        induction u with
        | zero => intros; exact absurd (by assumption) (Nat.not_lt_zero _)
        | succ u ih =>
          intro e i fd wh c v1 hu he hm0 k1 k2 k3 k4 k5 hrk
          refine J_iload (i := 9) (n := 211) dX7_read_209 rfl rfl ?_
          refine J_bipush (n := 213) dX7_read_211 kB_57 rfl ?_
          refine J_icmp_ge (tgt := 236) (n := 216) dX7_read_213 (by decide) rfl (fun c_213 => ?_) (fun c_213 => ?_)
          · refine J_bipush (n := 238) dX7_read_236 kB_m20 rfl ?_
            refine J_iload (i := 7) (n := 240) dX7_read_238 rfl rfl ?_
            refine J_isub (n := 241) dX7_read_240 rfl ?_
            refine J_iret dX7_read_241 rfl (kN_i _) ?_
            rw [nI_leI (by omega) (by omega)] at c_213
            have ee : e = 57 := by omega
            subst ee
            rw [hrk] at hq
            have e0 : v1.1 0 = v.1 0 := funext fun q => by
              rcases Nat.lt_or_ge q 57 with z | z
              · exact k1 q z
              · exact k3 q z
            exact hq _ (hm0.q ⟨fun j hj => by
              by_cases ej : j = 0
              · rw [ej]; exact e0
              · exact k4 j ej (by omega), fun j _ => by rw [k5]⟩)
          · rw [nI_leI (by omega) (by omega)] at c_213
            refine J_aload_n (i := 0) (n := 217) dX7_read_216 rfl rfl rfl ?_
            refine T_get (k := 0) (n := 220) wk_X7 dX7_read_217 wf_X7_7 (by decide) (by first | assumption | decide) rfl rfl ?_
            refine J_iload (i := 9) (n := 222) dX7_read_220 rfl rfl ?_
            refine J_aload_n (i := 0) (n := 223) dX7_read_222 rfl rfl rfl ?_
            refine T_get (k := 29) (n := 226) wk_X7 dX7_read_223 wf_X7_41 (by decide) (by first | assumption | decide) rfl rfl ?_
            refine J_iload (i := 9) (n := 228) dX7_read_226 rfl rfl ?_
            refine T_iald (c := 7) (k := 29) (N := 57) (n := 229) dX7_read_228 (by decide) (by first | assumption | decide) rfl (vp_in_nI (by omega) (by decide)) rfl ?_
            rw [nI_clamp (by omega), k2 _ (by omega)]
            refine T_iast (c := 7) (k := 0) (N := 171) (n := 230) dX7_read_229 (by decide) (by first | assumption | decide) (fun _ => rfl) (vp_in_nI (by omega) (by decide)) rfl ?_
            rw [nI_clamp (by omega)]
            refine J_inc (i := 9) (n := 233) (lv' := [(0, _), (1, _), (2, _), (3, _), (4, _), (5, _), (6, _), (7, _), (8, _), (9, _)]) dX7_read_230 rfl (by decide) rfl rfl ?_
            refine J_goto (tgt := 209) dX7_read_233 (by decide) ?_
            refine ih (e + 1) i fd wh c _ (by omega) (by omega) hm0 (fun q hq0 => ?_) (fun q hq0 => by rw [gs_wn _ _ (by decide)]; exact k2 q hq0) (fun q hq0 => by rw [gs_wk, pk_un (by omega)]; exact k3 q hq0) (fun j hj hj2 => by rw [gs_wn _ _ hj]; exact k4 j hj hj2) k5 hrk
            rw [gs_wk]
            by_cases eq : q = e
            · subst eq; rw [pk_us]
            · rw [pk_un (by omega)]; exact k1 q (by omega)
      have loop : ∀ u i fd wh v1, n - i < u → i ≤ n → wh ≤ i → fd ≤ 3 → (fd = 0 → wh = i ∧ rk S (S.2.2.2.2.2 k) l f n 0 = rk S (S.2.2.2.2.2 k) l f (n - i) i ∧ ivx (S.2.2.2.2.2 k) f i) → (¬ fd = 0 → rk S (S.2.2.2.2.2 k) l f n 0 = .inl (fd, wh)) → okU S (S.2.2.2.2.2 k) f wh → mR v1 (pS_p S (rap S (S.2.2.2.2.2 k) f wh)) → (∀ q, q < 57 → v1.1 29 q = v.1 0 q) → (∀ q, 57 ≤ q → v1.1 0 q = v.1 0 q) → (∀ j, j ≠ 0 → j ≠ 29 → v1.1 j = v.1 j) → v1.2 = v.2 → gx_J G mX7_read (d + 14) 0 0 Q 62 [(0, .ref (gs_a G 7 0 0)), (1, .int (nI k)), (2, .int (nI l)), (3, .int f), (4, .int (nI n)), (5, .int (nI fd)), (6, .int (nI wh)), (7, .int (nI i))] [] (hp G (gs_set σ 7 0 v1)) := by
        intro u
        induction u with
        | zero => intros; exact absurd (by assumption) (Nat.not_lt_zero _)
        | succ u ih =>
          intro i fd wh v1 hu hi hwi hf3 h0 h1 hok hm1 k2 k3 k4 k5
          have l25 : ∀ z, z = k → v1.1 25 z = (if (S.2.2.2.2.2 k).2.1 = 9 then (-4 : Int32) else nI (S.2.2.2.2.2 k).2.1) := fun z hz => by rw [hz, k4 25 (by decide) (by decide)]; exact hxl
          have l26 : v1.1 26 k = nI (S.2.2.2.2.2 k).2.2 := by rw [k4 26 (by decide) (by decide)]; exact hxz
          have l27 : ∀ q, q < 40 → v1.1 27 (40 * k + q) = (S.2.2.2.2.2 k).1 q := fun q hq0 => by rw [k4 27 (by decide) (by decide)]; exact hxc q hq0
          have fin : ∀ fd c, wh = i → i < n → fd = pf (S.2.2.2.2.2 k) l (f + nI (2 * i)) → rk S (S.2.2.2.2.2 k) l f n 0 = rk S (S.2.2.2.2.2 k) l f (n - i) i → ivx (S.2.2.2.2.2 k) f i → gx_J G mX7_read (d + 14) 0 0 Q 164 [(0, .ref (gs_a G 7 0 0)), (1, .int (nI k)), (2, .int (nI l)), (3, .int f), (4, .int (nI n)), (5, .int (nI fd)), (6, .int (nI wh)), (7, .int (nI i)), (8, .int (nI c))] [] (hp G (gs_set σ 7 0 v1)) := by
            intro fd c ewi hin hfd hrk hiv
            subst ewi
            rw [show n - wh = (n - (wh + 1)) + 1 by omega, rk_s] at hrk
            have hpl := pf_le (S.2.2.2.2.2 k) l (f + nI (2 * wh))
            subst hfd
            refine J_iload (i := 5) (n := 166) dX7_read_164 rfl rfl ?_
            refine J_if_ne (tgt := 245) (n := 169) dX7_read_166 (by decide) rfl (fun c_166 => ?_) (fun c_166 => ?_)
            · refine J_inc (i := 7) (n := 248) (lv' := [(0, _), (1, _), (2, _), (3, _), (4, _), (5, _), (6, _), (7, _), (8, _)]) dX7_read_245 rfl (by decide) rfl rfl ?_
              refine J_goto (tgt := 62) dX7_read_248 (by decide) ?_
              refine J_sub (lv' := [(0, _), (1, _), (2, _), (3, _), (4, _), (5, _), (6, _), (7, _)]) (fun q hq => List.mem_append_left [(8, _)] hq) ?_
              first
              | (refine ih (wh + 1) 0 (wh + 1) v2 (by omega) (by omega) (Nat.le_refl _) (by decide) (fun _ => ⟨rfl, hrk, Or.inr ⟨m, hfm, by omega⟩⟩) (fun q => absurd rfl q) (fun j hj => ?_) hm2 (fun q hq0 => by rw [j1 29 (by decide)]; exact k2 q hq0) (fun q hq0 => by rw [j3 q (by omega)]; exact k3 q hq0) (fun j hj hj2 => by rw [j1 j hj]; exact k4 j hj hj2) (j2.trans k5)
                 rcases Nat.lt_or_ge j wh with q | q
                 · exact hok j q
                 · have eq : j = wh := by omega
                   subst eq
                   exact ⟨m, hfm, by omega, hno⟩)
              | (rw [nI_k0 (by omega)] at c_166
                 rw [if_neg c_166] at hrk
                 exact ih (wh + 1) _ wh v1 (by omega) (by omega) (by omega) hpl (fun q => absurd q c_166) (fun _ => hrk) hok hm1 k2 k3 k4 k5)
            · rw [nI_k0 (by omega)] at c_166
              rw [c_166]
              rw [if_pos c_166] at hrk
              obtain ⟨m, hfm, hmz⟩ := pf_at hiv c_166 hx40
              have hnf : nat f = m := by rw [hfm]; exact nat_nI (by omega)
              rw [hnf] at hrk
              refine J_bipush (n := 171) dX7_read_169 kB_40 rfl ?_
              refine J_iload_n (i := 1) (n := 172) dX7_read_171 rfl rfl rfl ?_
              refine J_imul (n := 173) dX7_read_172 rfl ?_
              rw [pk_mul]
              refine J_iload_n (i := 3) (n := 174) dX7_read_173 rfl rfl rfl ?_
              refine J_iadd (n := 175) dX7_read_174 rfl ?_
              rw [hfm, nI_add]
              refine J_iconst (n := 176) dX7_read_175 kI_2 rfl ?_
              refine J_iload (i := 7) (n := 178) dX7_read_176 rfl rfl ?_
              refine J_imul (n := 179) dX7_read_178 rfl ?_
              rw [pk_mul]
              refine J_iadd (n := 180) dX7_read_179 rfl ?_
              rw [nI_add, show 40 * k + m + 2 * wh = 40 * k + (m + 2 * wh) by omega]
              refine J_istore (i := 8) (n := 182) (lv' := [(0, _), (1, _), (2, _), (3, _), (4, _), (5, _), (6, _), (7, _), (8, _)]) dX7_read_180 (by decide) rfl rfl ?_
              refine J_aload_n (i := 0) (n := 183) dX7_read_182 rfl rfl rfl ?_
              refine J_aload_n (i := 0) (n := 184) dX7_read_183 rfl rfl rfl ?_
              refine T_get (k := 27) (n := 187) wk_X7 dX7_read_184 wf_X7_38 (by decide) (by first | assumption | decide) rfl rfl ?_
              refine J_iload (i := 8) (n := 189) dX7_read_187 rfl rfl ?_
              refine T_iald (c := 7) (k := 27) (N := 160) (n := 190) dX7_read_189 (by decide) (by first | assumption | decide) rfl (vp_in_nI (by omega) (by decide)) rfl ?_
              rw [nI_clamp (by omega), l27 _ (by omega)]
              refine J_iconst (n := 191) dX7_read_190 kI_1 rfl ?_
              refine J_aload_n (i := 0) (n := 192) dX7_read_191 rfl rfl rfl ?_
              refine T_get (k := 27) (n := 195) wk_X7 dX7_read_192 wf_X7_38 (by decide) (by first | assumption | decide) rfl rfl ?_
              refine J_iload (i := 8) (n := 197) dX7_read_195 rfl rfl ?_
              refine J_iconst (n := 198) dX7_read_197 kI_1 rfl ?_
              refine J_iadd (n := 199) dX7_read_198 rfl ?_
              rw [nI_add, show 40 * k + (m + 2 * wh) + 1 = 40 * k + (m + 2 * wh + 1) by omega]
              refine T_iald (c := 7) (k := 27) (N := 160) (n := 200) dX7_read_199 (by decide) (by first | assumption | decide) rfl (vp_in_nI (by omega) (by decide)) rfl ?_
              rw [nI_clamp (by omega), l27 _ (by omega), ← hfm]
              refine J_callVx (n := 203) wS_X7_alter (c_N_alterX (Q := fun r h => ∃ v2 : gs_Ob, r = some (.int (sp_alter (pS_p S (rap S (S.2.2.2.2.2 k) f wh)) ((S.2.2.2.2.2 k).1 (m + 2 * wh)) (nI 1) ((S.2.2.2.2.2 k).1 (m + 2 * wh + 1))).1) ∧ mR v2 (sp_alter (pS_p S (rap S (S.2.2.2.2.2 k) f wh)) ((S.2.2.2.2.2 k).1 (m + 2 * wh)) (nI 1) ((S.2.2.2.2.2 k).1 (m + 2 * wh + 1))).2 ∧ (∀ k, k ≠ 0 → v2.1 k = v1.1 k) ∧ v2.2 = v1.2 ∧ (∀ q, 38 ≤ q → v2.1 0 q = v1.1 0 q) ∧ h = hp G (gs_set σ 7 0 v2)) (d + 1) ((S.2.2.2.2.2 k).1 (m + 2 * wh)) (nI 1) ((S.2.2.2.2.2 k).1 (m + 2 * wh + 1)) (rap_SOk hS wh hok) hm1 (fun v2 q1 q2 q3 q4 => ⟨v2, rfl, q1, q2, q3, q4, rfl⟩)) dX7_read_200 wm_X7_311 ⟨wM_X7_alter, wV_X7_alter⟩ rfl (T_recv (by decide) (by first | assumption | decide)) rfl rfl (Nat.le_of_ble_eq_true rfl) rfl (fun r h1 hq1 => ?_)
              obtain ⟨v2, rfl, hm2, j1, j2, j3, rfl⟩ := hq1
              have hsa : sp_alter (pS_p S (rap S (S.2.2.2.2.2 k) f wh)) ((S.2.2.2.2.2 k).1 (m + 2 * wh)) (nI 1) ((S.2.2.2.2.2 k).1 (m + 2 * wh + 1)) = if sp_no S ((S.2.2.2.2.2 k).1 (m + 2 * wh)) (nI 1) ((S.2.2.2.2.2 k).1 (m + 2 * wh + 1)) = nI 0 then (nI ((rap S (S.2.2.2.2.2 k) f wh).1 2 (nat ((S.2.2.2.2.2 k).1 (m + 2 * wh)))), pS_p S (rap S (S.2.2.2.2.2 k) f (wh + 1))) else (sp_no S ((S.2.2.2.2.2 k).1 (m + 2 * wh)) (nI 1) ((S.2.2.2.2.2 k).1 (m + 2 * wh + 1)), (pS_p S (rap S (S.2.2.2.2.2 k) f wh))) := by
                unfold sp_alter
                rw [no_rap, show nat (nI 1) + 1 = 2 from by decide +kernel]
                show _ = (if _ then (_, pS_p S (pw_a (rap S (S.2.2.2.2.2 k) f wh) 2 (nat ((S.2.2.2.2.2 k).1 (nat f + 2 * wh))) (nat ((S.2.2.2.2.2 k).1 (nat f + 2 * wh + 1))))) else _)
                rw [hnf]
                rfl
              refine J_if_ge (tgt := 242) (n := 206) dX7_read_203 (by decide) rfl (fun c_203 => ?_) (fun c_203 => ?_)
              · have hno : sp_no S ((S.2.2.2.2.2 k).1 (m + 2 * wh)) (nI 1) ((S.2.2.2.2.2 k).1 (m + 2 * wh + 1)) = nI 0 := by
                  refine Classical.byContradiction fun hno => ?_
                  rw [hsa, if_neg hno] at c_203
                  exact absurd (no_neg hno) (Int32.not_lt.mpr c_203)
                rw [if_pos hno] at hrk
                rw [hsa, if_pos hno] at hm2
                refine J_inc (i := 6) (n := 245) (lv' := [(0, _), (1, _), (2, _), (3, _), (4, _), (5, _), (6, _), (7, _), (8, _)]) dX7_read_242 rfl (by decide) rfl rfl ?_
                refine J_inc (i := 7) (n := 248) (lv' := [(0, _), (1, _), (2, _), (3, _), (4, _), (5, _), (6, _), (7, _), (8, _)]) dX7_read_245 rfl (by decide) rfl rfl ?_
                refine J_goto (tgt := 62) dX7_read_248 (by decide) ?_
                refine J_sub (lv' := [(0, _), (1, _), (2, _), (3, _), (4, _), (5, _), (6, _), (7, _)]) (fun q hq => List.mem_append_left [(8, _)] hq) ?_
                first
                | (refine ih (wh + 1) 0 (wh + 1) v2 (by omega) (by omega) (Nat.le_refl _) (by decide) (fun _ => ⟨rfl, hrk, Or.inr ⟨m, hfm, by omega⟩⟩) (fun q => absurd rfl q) (fun j hj => ?_) hm2 (fun q hq0 => by rw [j1 29 (by decide)]; exact k2 q hq0) (fun q hq0 => by rw [j3 q (by omega)]; exact k3 q hq0) (fun j hj hj2 => by rw [j1 j hj]; exact k4 j hj hj2) (j2.trans k5)
                   rcases Nat.lt_or_ge j wh with q | q
                   · exact hok j q
                   · have eq : j = wh := by omega
                     subst eq
                     exact ⟨m, hfm, by omega, hno⟩)
                | (rw [nI_k0 (by omega)] at c_166
                   rw [if_neg c_166] at hrk
                   exact ih (wh + 1) _ wh v1 (by omega) (by omega) (by omega) hpl (fun q => absurd q c_166) (fun _ => hrk) hok hm1 k2 k3 k4 k5)
              · by_cases hno : sp_no S ((S.2.2.2.2.2 k).1 (m + 2 * wh)) (nI 1) ((S.2.2.2.2.2 k).1 (m + 2 * wh + 1)) = nI 0
                · exfalso
                  apply c_203
                  rw [hsa, if_pos hno]
                  obtain ⟨j, z, hj, hz, ej, ez, hpz⟩ := no_of hno hO
                  have hO2 := (rap_ok hS wh hok).1
                  have h11 := (hO2.2.1 j (by rw [rap_2]; exact hj)).2.1
                  rw [ej, nat_nI (by omega)]
                  exact nI_pos' (by omega)
                rw [if_neg hno] at hrk
                rw [hsa, if_neg hno] at hm2
                refine J_iconst (n := 207) dX7_read_206 kI_0 rfl ?_
                refine J_istore (i := 9) (n := 209) (lv' := [(0, _), (1, _), (2, _), (3, _), (4, _), (5, _), (6, _), (7, _), (8, _), (9, _)]) dX7_read_207 (by decide) rfl rfl ?_
                exact rst 58 0 wh 0 wh _ v2 (by omega) (by omega) hm (fun q hq0 => absurd hq0 (Nat.not_lt_zero _)) (fun q hq0 => by rw [j1 29 (by decide)]; exact k2 q hq0) (fun q hq0 => by rw [j3 q (by omega)]; exact k3 q hq0) (fun j hj hj2 => by rw [j1 j hj]; exact k4 j hj hj2) (j2.trans k5) hrk
          have one : ∀ c v8, c < 2 → (∀ rs, rs = (if (S.2.2.2.2.2 k).2.1 = 9 then 1 else if ¬ (S.2.2.2.2.2 k).2.1 = l then 3 else if ¬ (f.toInt64 + (nI (2 * i)).toInt64 + (nI c).toInt64) < lN 0 ∧ (f.toInt64 + (nI (2 * i)).toInt64 + (nI c).toInt64) < lN (S.2.2.2.2.2 k).2.2 then 0 else 2) → gx_J G mX7_read (d + 14) 0 0 Q 77 [(0, .ref (gs_a G 7 0 0)), (1, .int (nI k)), (2, .int (nI l)), (3, .int f), (4, .int (nI n)), (5, .int (nI rs)), (6, .int (nI wh)), (7, .int (nI i)), (8, .int (nI (c + 1)))] [] (hp G (gs_set σ 7 0 v1))) → v8 = nI c → gx_J G mX7_read (d + 14) 0 0 Q 77 [(0, .ref (gs_a G 7 0 0)), (1, .int (nI k)), (2, .int (nI l)), (3, .int f), (4, .int (nI n)), (5, .int (nI 0)), (6, .int (nI wh)), (7, .int (nI i)), (8, .int v8)] [] (hp G (gs_set σ 7 0 v1)) := by
            intro c v8 hc2 hk hv8
            subst hv8
            refine J_iload (i := 8) (n := 79) dX7_read_77 rfl rfl ?_
            refine J_iconst (n := 80) dX7_read_79 kI_2 rfl ?_
            refine J_icmp_ge (tgt := 164) (n := 83) dX7_read_80 (by decide) rfl (fun c_80 => ?_) (fun c_80 => ?_)
            · first
              | (rw [nI_leI (by omega) (by omega)] at c_80; exact absurd c_80 (by omega))
              | exact absurd rfl c_85
            · rw [nI_leI (by omega) (by omega)] at c_80
              refine J_iload (i := 5) (n := 85) dX7_read_83 rfl rfl ?_
              refine J_if_ne (tgt := 164) (n := 88) dX7_read_85 (by decide) rfl (fun c_85 => ?_) (fun c_85 => ?_)
              · first
                | (rw [nI_leI (by omega) (by omega)] at c_80; exact absurd c_80 (by omega))
                | exact absurd rfl c_85
              · refine J_iload_n (i := 3) (n := 89) dX7_read_88 rfl rfl rfl ?_
                refine J_i2l (n := 90) dX7_read_89 rfl ?_
                refine J_iconst (n := 91) dX7_read_90 kI_2 rfl ?_
                refine J_iload (i := 7) (n := 93) dX7_read_91 rfl rfl ?_
                refine J_imul (n := 94) dX7_read_93 rfl ?_
                rw [pk_mul]
                refine J_i2l (n := 95) dX7_read_94 rfl ?_
                refine J_ladd (n := 96) dX7_read_95 rfl ?_
                refine J_iload (i := 8) (n := 98) dX7_read_96 rfl rfl ?_
                refine J_i2l (n := 99) dX7_read_98 rfl ?_
                refine J_ladd (n := 100) dX7_read_99 rfl ?_
                refine J_lstore (i := 9) (n := 102) (lv' := [(0, _), (1, _), (2, _), (3, _), (4, _), (5, _), (6, _), (7, _), (8, _), (9, _)]) dX7_read_100 (by decide) rfl rfl ?_
                refine J_aload_n (i := 0) (n := 103) dX7_read_102 rfl rfl rfl ?_
                refine T_get (k := 25) (n := 106) wk_X7 dX7_read_103 wf_X7_32 (by decide) (by first | assumption | decide) rfl rfl ?_
                refine J_iload_n (i := 1) (n := 107) dX7_read_106 rfl rfl rfl ?_
                refine T_iald (c := 7) (k := 25) (N := 4) (n := 108) dX7_read_107 (by decide) (by first | assumption | decide) rfl (vp_in_nI (by omega) (by decide)) rfl ?_
                rw [nI_clamp (by omega), l25 k rfl]
                refine J_bipush (n := 110) dX7_read_108 kB_m4 rfl ?_
                refine J_icmp_ne (tgt := 117) (n := 113) dX7_read_110 (by decide) rfl (fun c_110 => ?_) (fun c_110 => ?_)
                · rw [h9] at c_110
                  refine J_aload_n (i := 0) (n := 118) dX7_read_117 rfl rfl rfl ?_
                  refine T_get (k := 25) (n := 121) wk_X7 dX7_read_118 wf_X7_32 (by decide) (by first | assumption | decide) rfl rfl ?_
                  refine J_iload_n (i := 1) (n := 122) dX7_read_121 rfl rfl rfl ?_
                  refine T_iald (c := 7) (k := 25) (N := 4) (n := 123) dX7_read_122 (by decide) (by first | assumption | decide) rfl (vp_in_nI (by omega) (by decide)) rfl ?_
                  rw [nI_clamp (by omega), l25 k rfl, if_neg c_110]
                  refine J_iload_n (i := 2) (n := 124) dX7_read_123 rfl rfl rfl ?_
                  refine J_icmp_eq (tgt := 131) (n := 127) dX7_read_124 (by decide) rfl (fun c_124 => ?_) (fun c_124 => ?_)
                  · rw [nI_eq (by omega) (by omega)] at c_124
                    have c124 : (S.2.2.2.2.2 k).2.1 = l := by omega
                    refine J_lload (i := 9) (n := 133) dX7_read_131 rfl rfl ?_
                    refine J_lconst (n := 134) dX7_read_133 kL_0 rfl ?_
                    refine J_lcmp (n := 135) dX7_read_134 rfl ?_
                    refine J_if_lt (tgt := 151) (n := 138) dX7_read_135 (by decide) rfl (fun c_135 => ?_) (fun c_135 => ?_)
                    · refine J_iconst (n := 152) dX7_read_151 kI_2 rfl ?_
                      refine J_goto (tgt := 156) dX7_read_152 (by decide) ?_
                      refine J_istore (i := 5) (n := 158) (lv' := [(0, _), (1, _), (2, _), (3, _), (4, _), (5, _), (6, _), (7, _), (8, _), (9, _)]) dX7_read_156 (by decide) rfl rfl ?_
                      refine J_inc (i := 8) (n := 161) (lv' := [(0, _), (1, _), (2, _), (3, _), (4, _), (5, _), (6, _), (7, _), (8, _), (9, _)]) dX7_read_158 rfl (by decide) rfl rfl ?_
                      refine J_goto (tgt := 77) dX7_read_161 (by decide) ?_
                      refine J_sub (lv' := [(0, _), (1, _), (2, _), (3, _), (4, _), (5, _), (6, _), (7, _), (8, _)]) (fun q hq => List.mem_append_left [(9, _)] hq) ?_
                      first
                      | (refine hk 1 ?_; rw [h9] at c_110; rw [if_pos c_110])
                      | (refine hk 3 ?_; rw [if_neg c_110, if_pos c_124])
                      | (refine hk 0 ?_; rw [if_neg c_110, if_neg (Classical.not_not.mpr c124), if_pos ⟨c_135, c_148⟩])
                      | (refine hk 2 ?_
                         rw [if_neg c_110, if_neg (Classical.not_not.mpr c124), if_neg]
                         rintro ⟨q1, q2⟩
                         first
                         | (rw [lc_lt] at c_135; exact q1 c_135)
                         | (rw [lc_lt] at c_148; exact c_148 q2))
                    · rw [lc_lt] at c_135
                      refine J_lload (i := 9) (n := 140) dX7_read_138 rfl rfl ?_
                      refine J_aload_n (i := 0) (n := 141) dX7_read_140 rfl rfl rfl ?_
                      refine T_get (k := 26) (n := 144) wk_X7 dX7_read_141 wf_X7_35 (by decide) (by first | assumption | decide) rfl rfl ?_
                      refine J_iload_n (i := 1) (n := 145) dX7_read_144 rfl rfl rfl ?_
                      refine T_iald (c := 7) (k := 26) (N := 4) (n := 146) dX7_read_145 (by decide) (by first | assumption | decide) rfl (vp_in_nI (by omega) (by decide)) rfl ?_
                      rw [nI_clamp (by omega), l26]
                      refine J_i2l (n := 147) dX7_read_146 rfl ?_
                      rw [nI_l (n := (S.2.2.2.2.2 k).2.2) (by omega)]
                      refine J_lcmp (n := 148) dX7_read_147 rfl ?_
                      refine J_if_lt (tgt := 155) (n := 151) dX7_read_148 (by decide) rfl (fun c_148 => ?_) (fun c_148 => ?_)
                      · rw [lc_lt] at c_148
                        refine J_iconst (n := 156) dX7_read_155 kI_0 rfl ?_
                        refine J_istore (i := 5) (n := 158) (lv' := [(0, _), (1, _), (2, _), (3, _), (4, _), (5, _), (6, _), (7, _), (8, _), (9, _)]) dX7_read_156 (by decide) rfl rfl ?_
                        refine J_inc (i := 8) (n := 161) (lv' := [(0, _), (1, _), (2, _), (3, _), (4, _), (5, _), (6, _), (7, _), (8, _), (9, _)]) dX7_read_158 rfl (by decide) rfl rfl ?_
                        refine J_goto (tgt := 77) dX7_read_161 (by decide) ?_
                        refine J_sub (lv' := [(0, _), (1, _), (2, _), (3, _), (4, _), (5, _), (6, _), (7, _), (8, _)]) (fun q hq => List.mem_append_left [(9, _)] hq) ?_
                        first
                        | (refine hk 1 ?_; rw [h9] at c_110; rw [if_pos c_110])
                        | (refine hk 3 ?_; rw [if_neg c_110, if_pos c_124])
                        | (refine hk 0 ?_; rw [if_neg c_110, if_neg (Classical.not_not.mpr c124), if_pos ⟨c_135, c_148⟩])
                        | (refine hk 2 ?_
                           rw [if_neg c_110, if_neg (Classical.not_not.mpr c124), if_neg]
                           rintro ⟨q1, q2⟩
                           first
                           | (rw [lc_lt] at c_135; exact q1 c_135)
                           | (rw [lc_lt] at c_148; exact c_148 q2))
                      · refine J_iconst (n := 152) dX7_read_151 kI_2 rfl ?_
                        refine J_goto (tgt := 156) dX7_read_152 (by decide) ?_
                        refine J_istore (i := 5) (n := 158) (lv' := [(0, _), (1, _), (2, _), (3, _), (4, _), (5, _), (6, _), (7, _), (8, _), (9, _)]) dX7_read_156 (by decide) rfl rfl ?_
                        refine J_inc (i := 8) (n := 161) (lv' := [(0, _), (1, _), (2, _), (3, _), (4, _), (5, _), (6, _), (7, _), (8, _), (9, _)]) dX7_read_158 rfl (by decide) rfl rfl ?_
                        refine J_goto (tgt := 77) dX7_read_161 (by decide) ?_
                        refine J_sub (lv' := [(0, _), (1, _), (2, _), (3, _), (4, _), (5, _), (6, _), (7, _), (8, _)]) (fun q hq => List.mem_append_left [(9, _)] hq) ?_
                        first
                        | (refine hk 1 ?_; rw [h9] at c_110; rw [if_pos c_110])
                        | (refine hk 3 ?_; rw [if_neg c_110, if_pos c_124])
                        | (refine hk 0 ?_; rw [if_neg c_110, if_neg (Classical.not_not.mpr c124), if_pos ⟨c_135, c_148⟩])
                        | (refine hk 2 ?_
                           rw [if_neg c_110, if_neg (Classical.not_not.mpr c124), if_neg]
                           rintro ⟨q1, q2⟩
                           first
                           | (rw [lc_lt] at c_135; exact q1 c_135)
                           | (rw [lc_lt] at c_148; exact c_148 q2))
                  · rw [nI_eq (by omega) (by omega)] at c_124
                    refine J_iconst (n := 128) dX7_read_127 kI_3 rfl ?_
                    refine J_goto (tgt := 156) dX7_read_128 (by decide) ?_
                    refine J_istore (i := 5) (n := 158) (lv' := [(0, _), (1, _), (2, _), (3, _), (4, _), (5, _), (6, _), (7, _), (8, _), (9, _)]) dX7_read_156 (by decide) rfl rfl ?_
                    refine J_inc (i := 8) (n := 161) (lv' := [(0, _), (1, _), (2, _), (3, _), (4, _), (5, _), (6, _), (7, _), (8, _), (9, _)]) dX7_read_158 rfl (by decide) rfl rfl ?_
                    refine J_goto (tgt := 77) dX7_read_161 (by decide) ?_
                    refine J_sub (lv' := [(0, _), (1, _), (2, _), (3, _), (4, _), (5, _), (6, _), (7, _), (8, _)]) (fun q hq => List.mem_append_left [(9, _)] hq) ?_
                    first
                    | (refine hk 1 ?_; rw [h9] at c_110; rw [if_pos c_110])
                    | (refine hk 3 ?_; rw [if_neg c_110, if_pos c_124])
                    | (refine hk 0 ?_; rw [if_neg c_110, if_neg (Classical.not_not.mpr c124), if_pos ⟨c_135, c_148⟩])
                    | (refine hk 2 ?_
                       rw [if_neg c_110, if_neg (Classical.not_not.mpr c124), if_neg]
                       rintro ⟨q1, q2⟩
                       first
                       | (rw [lc_lt] at c_135; exact q1 c_135)
                       | (rw [lc_lt] at c_148; exact c_148 q2))
                · refine J_iconst (n := 114) dX7_read_113 kI_1 rfl ?_
                  refine J_goto (tgt := 156) dX7_read_114 (by decide) ?_
                  refine J_istore (i := 5) (n := 158) (lv' := [(0, _), (1, _), (2, _), (3, _), (4, _), (5, _), (6, _), (7, _), (8, _), (9, _)]) dX7_read_156 (by decide) rfl rfl ?_
                  refine J_inc (i := 8) (n := 161) (lv' := [(0, _), (1, _), (2, _), (3, _), (4, _), (5, _), (6, _), (7, _), (8, _), (9, _)]) dX7_read_158 rfl (by decide) rfl rfl ?_
                  refine J_goto (tgt := 77) dX7_read_161 (by decide) ?_
                  refine J_sub (lv' := [(0, _), (1, _), (2, _), (3, _), (4, _), (5, _), (6, _), (7, _), (8, _)]) (fun q hq => List.mem_append_left [(9, _)] hq) ?_
                  first
                  | (refine hk 1 ?_; rw [h9] at c_110; rw [if_pos c_110])
                  | (refine hk 3 ?_; rw [if_neg c_110, if_pos c_124])
                  | (refine hk 0 ?_; rw [if_neg c_110, if_neg (Classical.not_not.mpr c124), if_pos ⟨c_135, c_148⟩])
                  | (refine hk 2 ?_
                     rw [if_neg c_110, if_neg (Classical.not_not.mpr c124), if_neg]
                     rintro ⟨q1, q2⟩
                     first
                     | (rw [lc_lt] at c_135; exact q1 c_135)
                     | (rw [lc_lt] at c_148; exact c_148 q2))
          have out : ∀ rs c, rs ≤ 3 → c ≤ 2 → (c = 2 ∨ ¬ rs = 0) → (∀ rs c, gx_J G mX7_read (d + 14) 0 0 Q 164 [(0, .ref (gs_a G 7 0 0)), (1, .int (nI k)), (2, .int (nI l)), (3, .int f), (4, .int (nI n)), (5, .int (nI rs)), (6, .int (nI wh)), (7, .int (nI i)), (8, .int (nI c))] [] (hp G (gs_set σ 7 0 v1)) → True) → gx_J G mX7_read (d + 14) 0 0 Q 164 [(0, .ref (gs_a G 7 0 0)), (1, .int (nI k)), (2, .int (nI l)), (3, .int f), (4, .int (nI n)), (5, .int (nI rs)), (6, .int (nI wh)), (7, .int (nI i)), (8, .int (nI c))] [] (hp G (gs_set σ 7 0 v1)) → gx_J G mX7_read (d + 14) 0 0 Q 77 [(0, .ref (gs_a G 7 0 0)), (1, .int (nI k)), (2, .int (nI l)), (3, .int f), (4, .int (nI n)), (5, .int (nI rs)), (6, .int (nI wh)), (7, .int (nI i)), (8, .int (nI c))] [] (hp G (gs_set σ 7 0 v1)) := by
            intro rs c h3 h2 hor _ hk
            refine J_iload (i := 8) (n := 79) dX7_read_77 rfl rfl ?_
            refine J_iconst (n := 80) dX7_read_79 kI_2 rfl ?_
            refine J_icmp_ge (tgt := 164) (n := 83) dX7_read_80 (by decide) rfl (fun c_80 => ?_) (fun c_80 => ?_)
            · exact hk
            · rw [nI_leI (by omega) (by omega)] at c_80
              refine J_iload (i := 5) (n := 85) dX7_read_83 rfl rfl ?_
              refine J_if_ne (tgt := 164) (n := 88) dX7_read_85 (by decide) rfl (fun c_85 => ?_) (fun c_85 => ?_)
              · exact hk
              · rw [nI_k0 (by omega)] at c_85
                exact absurd c_85 (by omega)
          refine J_iload (i := 7) (n := 64) dX7_read_62 rfl rfl ?_
          refine J_iload (i := 4) (n := 66) dX7_read_64 rfl rfl ?_
          refine J_icmp_ge (tgt := 251) (n := 69) dX7_read_66 (by decide) rfl (fun c_66 => ?_) (fun c_66 => ?_)
          · have hrk : rk S (S.2.2.2.2.2 k) l f n 0 = .inl (fd, wh) := by
              by_cases c0 : fd = 0
              · obtain ⟨q1, q2, -⟩ := h0 c0
                try rw [nI_leI (by omega) (by omega)] at c_66
                have ein : n - i = 0 := by
                  first
                  | omega
                  | (exfalso; apply c_71; rw [c0]; rfl)
                rw [q2, ein, q1, c0]
                rfl
              · exact h1 c0
            refine J_aload_n (i := 0) (n := 252) dX7_read_251 rfl rfl rfl ?_
            refine J_iload (i := 5) (n := 254) dX7_read_252 rfl rfl ?_
            refine T_putI (k := 28) (n := 257) wk_X7 dX7_read_254 wf_X7_315 (by decide) (by first | assumption | decide) (kN_i _) rfl (Nat.le_of_ble_eq_true rfl) rfl rfl ?_
            refine J_iload (i := 6) (n := 259) dX7_read_257 rfl rfl ?_
            refine J_iret dX7_read_259 rfl (kN_i _) ?_
            rw [hrk] at hq
            exact hq _ (hm1.fault fd)
          · rw [nI_leI (by omega) (by omega)] at c_66
            refine J_iload (i := 5) (n := 71) dX7_read_69 rfl rfl ?_
            refine J_if_ne (tgt := 251) (n := 74) dX7_read_71 (by decide) rfl (fun c_71 => ?_) (fun c_71 => ?_)
            · have hrk : rk S (S.2.2.2.2.2 k) l f n 0 = .inl (fd, wh) := by
                by_cases c0 : fd = 0
                · obtain ⟨q1, q2, -⟩ := h0 c0
                  try rw [nI_leI (by omega) (by omega)] at c_66
                  have ein : n - i = 0 := by
                    first
                    | omega
                    | (exfalso; apply c_71; rw [c0]; rfl)
                  rw [q2, ein, q1, c0]
                  rfl
                · exact h1 c0
              refine J_aload_n (i := 0) (n := 252) dX7_read_251 rfl rfl rfl ?_
              refine J_iload (i := 5) (n := 254) dX7_read_252 rfl rfl ?_
              refine T_putI (k := 28) (n := 257) wk_X7 dX7_read_254 wf_X7_315 (by decide) (by first | assumption | decide) (kN_i _) rfl (Nat.le_of_ble_eq_true rfl) rfl rfl ?_
              refine J_iload (i := 6) (n := 259) dX7_read_257 rfl rfl ?_
              refine J_iret dX7_read_259 rfl (kN_i _) ?_
              rw [hrk] at hq
              exact hq _ (hm1.fault fd)
            · rw [nI_k0 (by omega)] at c_71
              have c71 : fd = 0 := by omega
              subst c71
              refine J_iconst (n := 75) dX7_read_74 kI_0 rfl ?_
              refine J_istore (i := 8) (n := 77) (lv' := [(0, _), (1, _), (2, _), (3, _), (4, _), (5, _), (6, _), (7, _), (8, _)]) dX7_read_75 (by decide) rfl rfl ?_
              obtain ⟨ewi, hrk, hiv⟩ := h0 rfl
              have hls := ls_sum hiv hx40
              refine one 0 _ (by decide) (fun rs hrs => ?_) rfl
              have e0 : f.toInt64 + (nI (2 * i)).toInt64 + (nI 0).toInt64 = (f + nI (2 * i)).toInt64 := by rw [hls, show (nI 0).toInt64 = 0 from by decide +kernel, Int64.add_zero]
              rw [e0] at hrs
              have hfa : ¬ (S.2.2.2.2.2 k).2.1 = 9 → (S.2.2.2.2.2 k).2.1 = l → ((¬ (f + nI (2 * i)).toInt64 < lN 0 ∧ (f + nI (2 * i)).toInt64 < lN (S.2.2.2.2.2 k).2.2) ↔ fa (S.2.2.2.2.2 k) (f + nI (2 * i)) = 0) := by
                intro q9 ql
                rw [← in_iff hx40]
                unfold fa
                rw [if_neg q9]
                split
                · next q => exact ⟨fun _ => rfl, fun _ => q⟩
                · next q => exact ⟨fun z => absurd z q, fun z => by cases z⟩
              have hpf : rs = 0 ∨ rs = pf (S.2.2.2.2.2 k) l (f + nI (2 * i)) := by
                rw [hrs]
                unfold pf
                by_cases q9 : (S.2.2.2.2.2 k).2.1 = 9
                · rw [if_pos q9, if_pos q9]; exact Or.inr rfl
                · by_cases ql : (S.2.2.2.2.2 k).2.1 = l
                  · rw [if_neg q9, if_neg q9, if_neg (Classical.not_not.mpr ql), if_neg (Classical.not_not.mpr ql)]
                    by_cases qf : fa (S.2.2.2.2.2 k) (f + nI (2 * i)) = 0
                    · rw [if_pos ((hfa q9 ql).mpr qf)]; exact Or.inl rfl
                    · rw [if_neg (fun z => qf ((hfa q9 ql).mp z)), if_neg qf]
                      refine Or.inr ?_
                      unfold fa at qf ⊢
                      rw [if_neg q9] at qf ⊢
                      split
                      · next z => rw [if_pos z] at qf; exact absurd rfl qf
                      · rfl
                  · rw [if_neg q9, if_neg q9, if_pos ql, if_pos ql]; exact Or.inr rfl
              by_cases c0 : rs = 0
              · subst c0
                have hq9 : ¬ (S.2.2.2.2.2 k).2.1 = 9 := fun q => by rw [if_pos q] at hrs; cases hrs
                rw [if_neg hq9] at hrs
                have hql : (S.2.2.2.2.2 k).2.1 = l := Classical.byContradiction fun q => by rw [if_pos q] at hrs; cases hrs
                rw [if_neg (Classical.not_not.mpr hql)] at hrs
                have hin : ¬ (f + nI (2 * i)).toInt64 < lN 0 ∧ (f + nI (2 * i)).toInt64 < lN (S.2.2.2.2.2 k).2.2 := Classical.byContradiction fun q => by rw [if_neg q] at hrs; cases hrs
                have hf0 := (hfa hq9 hql).mp hin
                obtain ⟨-, m, hfm, hmz⟩ := fa_0 hf0 hx40
                refine one 1 _ (by decide) (fun rs hrs2 => ?_) rfl
                rw [hls, hfm, nI_l (by omega), show (nI 1).toInt64 = lN 1 from nI_l (by decide), lN_add, if_neg hq9, if_neg (Classical.not_not.mpr hql), ← nI_l (n := m + 1) (by omega)] at hrs2
                have hrp : rs = pf (S.2.2.2.2.2 k) l (f + nI (2 * i)) := by
                  rw [hrs2]
                  unfold pf
                  rw [if_neg hq9, if_neg (Classical.not_not.mpr hql), if_pos hf0, hfm, nI_add]
                  unfold fa
                  rw [if_neg hq9]
                  by_cases q : (!decide ((S.2.2.2.2.2 k).2.2 = 0) && ix_in (nI (m + 1)) ((S.2.2.2.2.2 k).2.2 - 1)) = true
                  · rw [if_pos q, if_pos ((in_iff hx40).mp q)]
                  · rw [if_neg q, if_neg (fun z => q ((in_iff hx40).mpr z))]
                have hpl := pf_le (S.2.2.2.2.2 k) l (f + nI (2 * i))
                exact out rs 2 (by omega) (by omega) (Or.inl rfl) (fun _ _ _ => trivial) (fin rs 2 ewi (by omega) hrp hrk hiv)
              · have hpl := pf_le (S.2.2.2.2.2 k) l (f + nI (2 * i))
                exact out rs 1 (by omega) (by omega) (Or.inr c0) (fun _ _ _ => trivial) (fin rs 1 ewi (by omega) (by omega) hrk hiv)
      have bef : ∀ u e v1, 57 - e < u → e ≤ 57 → (∀ q, q < e → v1.1 29 q = v.1 0 q) → (∀ j, j ≠ 29 → v1.1 j = v.1 j) → v1.2 = v.2 → gx_J G mX7_read (d + 14) 0 0 Q 26 [(0, .ref (gs_a G 7 0 0)), (1, .int (nI k)), (2, .int (nI l)), (3, .int f), (4, .int (nI n)), (5, .int (nI e))] [] (hp G (gs_set σ 7 0 v1)) := by
        intro u
        induction u with
        | zero => intros; exact absurd (by assumption) (Nat.not_lt_zero _)
        | succ u ih =>
          intro e v1 hu he k1 k2 k3
          refine J_iload (i := 5) (n := 28) dX7_read_26 rfl rfl ?_
          refine J_bipush (n := 30) dX7_read_28 kB_57 rfl ?_
          refine J_icmp_ge (tgt := 53) (n := 33) dX7_read_30 (by decide) rfl (fun c_30 => ?_) (fun c_30 => ?_)
          · rw [nI_leI (by omega) (by omega)] at c_30
            have ee : e = 57 := by omega
            subst ee
            refine J_iconst (n := 54) dX7_read_53 kI_0 rfl ?_
            refine J_istore (i := 5) (n := 56) (lv' := [(0, _), (1, _), (2, _), (3, _), (4, _), (5, _)]) dX7_read_54 (by decide) rfl rfl ?_
            refine J_iconst (n := 57) dX7_read_56 kI_0 rfl ?_
            refine J_istore (i := 6) (n := 59) (lv' := [(0, _), (1, _), (2, _), (3, _), (4, _), (5, _), (6, _)]) dX7_read_57 (by decide) rfl rfl ?_
            refine J_iconst (n := 60) dX7_read_59 kI_0 rfl ?_
            refine J_istore (i := 7) (n := 62) (lv' := [(0, _), (1, _), (2, _), (3, _), (4, _), (5, _), (6, _), (7, _)]) dX7_read_60 (by decide) rfl rfl ?_
            exact loop (n + 1) 0 0 0 v1 (by omega) (by omega) (Nat.le_refl _) (by decide) (fun _ => ⟨rfl, rfl, Or.inl rfl⟩) (fun q => absurd rfl q) (fun j hj => absurd hj (Nat.not_lt_zero _)) (hm.q ⟨fun j hj => k2 j (by omega), fun j _ => by rw [k3]⟩) k1 (fun q _ => by rw [k2 0 (by decide)]) (fun j _ hj => k2 j hj) k3
          · rw [nI_leI (by omega) (by omega)] at c_30
            refine J_aload_n (i := 0) (n := 34) dX7_read_33 rfl rfl rfl ?_
            refine T_get (k := 29) (n := 37) wk_X7 dX7_read_34 wf_X7_41 (by decide) (by first | assumption | decide) rfl rfl ?_
            refine J_iload (i := 5) (n := 39) dX7_read_37 rfl rfl ?_
            refine J_aload_n (i := 0) (n := 40) dX7_read_39 rfl rfl rfl ?_
            refine T_get (k := 0) (n := 43) wk_X7 dX7_read_40 wf_X7_7 (by decide) (by first | assumption | decide) rfl rfl ?_
            refine J_iload (i := 5) (n := 45) dX7_read_43 rfl rfl ?_
            refine T_iald (c := 7) (k := 0) (N := 171) (n := 46) dX7_read_45 (by decide) (by first | assumption | decide) rfl (vp_in_nI (by omega) (by decide)) rfl ?_
            rw [nI_clamp (by omega), k2 0 (by decide)]
            refine T_iast (c := 7) (k := 29) (N := 57) (n := 47) dX7_read_46 (by decide) (by first | assumption | decide) (fun _ => rfl) (vp_in_nI (by omega) (by decide)) rfl ?_
            rw [nI_clamp (by omega)]
            refine J_inc (i := 5) (n := 50) (lv' := [(0, _), (1, _), (2, _), (3, _), (4, _), (5, _)]) dX7_read_47 rfl (by decide) rfl rfl ?_
            refine J_goto (tgt := 26) dX7_read_50 (by decide) ?_
            refine ih (e + 1) _ (by omega) (by omega) (fun q hq0 => ?_) (fun j hj => by rw [gs_wn _ _ hj]; exact k2 j hj) k3
            rw [gs_wk]
            by_cases eq : q = e
            · subst eq; rw [pk_us]
            · rw [pk_un (by omega)]; exact k1 q (by omega)
      exact bef 58 0 v (by omega) (by omega) (fun q hq0 => absurd hq0 (Nat.not_lt_zero _)) (fun _ _ => rfl) rfl
    · refine J_iconst (n := 22) dX7_read_21 kI_m1 rfl ?_
      refine J_iret dX7_read_22 rfl (kN_i _) ?_
      unfold sp_read at hq
      rw [← Bool.and_assoc, if_neg (by
        first
        | (rw [nb_0] at c_5; rw [c_5, Bool.false_and]; decide)
        | (rw [nb_0] at c_18; rw [c_18, Bool.and_false]; decide))] at hq
      exact hq v hm

