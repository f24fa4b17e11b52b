theorem no_ok {S : pS} {g w v : Int32} (h : sp_no S g w v = nI 0) (hO : pOk S.1.1) : ∃ j k x, j < S.1.1.2.2 6 ∧ k ≤ 2 ∧ x ≤ 20 ∧ g = nI j ∧ w = nI k ∧ v = nI x ∧ (k = 0 → x ≤ 3) ∧ (k = 1 → x ≤ 11) ∧ (k = 1 → S.1.1.2.1 j = false) := by
  unfold sp_no at h
  by_cases hg : (isG S g && grb w v) = true
  · rw [if_pos hg] at h
    simp only [Bool.and_eq_true] at hg
    obtain ⟨j, hj, rfl⟩ := isG_of hg.1 hO
    have h4 := hO.2.2.2.2.1
    rw [show nat (nI j) = j from nI_clamp (by omega)] at h
    have hb := hg.2
    unfold grb at hb
    by_cases e0 : w = 0
    · rw [if_pos e0] at hb
      obtain ⟨x, hx, rfl⟩ := ix_of hb (by decide)
      exact ⟨j, 0, x, hj, by decide, by omega, rfl, e0, rfl, fun _ => hx, fun q => absurd q (by decide), fun q => absurd q (by decide)⟩
    · rw [if_neg e0] at hb
      by_cases e1 : w = 1
      · rw [if_pos e1] at hb
        obtain ⟨x, hx, rfl⟩ := ix_of hb (by decide)
        refine ⟨j, 1, x, hj, by decide, by omega, rfl, e1, rfl, fun q => absurd q (by decide), fun _ => hx, fun _ => ?_⟩
        cases e : S.1.1.2.1 j with
        | false => rfl
        | true => rw [if_pos ⟨e1, e⟩] at h; exact absurd h (by decide +kernel)
      · rw [if_neg e1] at hb
        by_cases e2 : w = 2
        · rw [if_pos e2] at hb
          obtain ⟨x, hx, rfl⟩ := ix_of hb (by decide)
          exact ⟨j, 2, x, hj, by decide, by omega, rfl, e2, rfl, fun q => absurd q (by decide), fun q => absurd q (by decide), fun q => absurd q (by decide)⟩
        · rw [if_neg e2] at hb
          cases hb
  · rw [if_neg hg] at h
    exact absurd h (by decide +kernel)
theorem nat_nI {j : Nat} (h : j < 2 ^ 31) : nat (nI j) = j := nI_clamp h
set_option maxHeartbeats 4000000 in
set_option maxRecDepth 100000 in
theorem c_G_door {G : gx_G} {σ : gs_S} {Q : Option Value → gx_Hp → Prop} {S : pS} (d : Nat) (v w : Int32) (hS : SOk S) (hc : cR σ S) (hq : ∀ τ, cR τ S → τ 7 0 = σ 7 0 → Q (some (.int (sp_door S v w))) (hp G τ)) : gx_K G yX6_door mX6_door (d + 12) 0 0 [.ref (gs_a G 6 0 0), .int v, .int w] (hp G σ) Q := by
  obtain ⟨hw, hs⟩ := hc.1
  have hO := hS.1.1
  have h4 : S.1.1.2.2 6 ≤ 4 := hO.2.2.2.2.1
  have h6 : S.1.1.2.2 7 ≤ 6 := hO.2.2.2.2.2.1
  have hm11 : S.1.1.2.2 8 ≤ 11 := hO.2.2.2.2.2.2.1
  have hn9 : S.1.1.2.2 9 ≤ 9999 := hO.2.2.2.2.2.2.2
  have hd9 : S.1.1.2.2 10 ≤ 999 := hS.1.2.2.1
  have e6 := hw.2.2.2.2 6 (by decide) (by decide)
  have e7 := hw.2.2.2.2 7 (by decide) (by decide)
  have e8 := hw.2.2.2.2 8 (by decide) (by decide)
  have e9 := hw.2.2.2.2 9 (by decide) (by decide)
  have e10 := hw.2.2.2.2 10 (by decide) (by decide)
  refine gx_K.of' (lv := [(0, _), (1, _), (2, _)]) (by decide) rfl (by decide) (Nat.le_of_ble_eq_true rfl) rfl ?_
  refine J_iload_n (i := 1) (n := 1) dX6_door_0 rfl rfl rfl ?_
  refine J_callSr (n := 4) wS_X6_isDoor (c_isDoor (d + 10) v ⟨rfl, rfl⟩) dX6_door_1 wm_X6_143 wT_X6_isDoor rfl rfl (Nat.le_of_ble_eq_true rfl) rfl ?_
  refine J_if_ne (tgt := 9) (n := 7) dX6_door_4 (by decide) rfl (fun c_4 => ?_) (fun c_4 => ?_)
  · rw [nb_t] at c_4
    unfold sp_door at hq
    rw [if_pos c_4] at hq
    obtain ⟨j, hj, rfl⟩ := ix_of c_4 (by omega)
    rw [nat_nI (by omega)] at hq
    refine J_iload_n (i := 2) (n := 10) dX6_door_9 rfl rfl rfl ?_
    by_cases e_10_0 : w = 0
    · rw [e_10_0]
      refine J_lookup (off := 26) (tgt := 36) dX6_door_10 (by decide) (by decide) (by decide) ?_
      refine J_aload_n (i := 0) (n := 37) dX6_door_36 rfl rfl rfl ?_
      refine T_getO (k := 0) (n := 40) wk_X6 dX6_door_37 wf_X6_10 (by decide) (by first | assumption | decide) rfl rfl ?_
      refine T_getO (k := 0) (n := 43) wk_X5 dX6_door_40 wf_X6_146 (by decide) (by first | assumption | decide) rfl rfl ?_
      refine J_iload_n (i := 1) (n := 44) dX6_door_43 rfl rfl rfl ?_
      refine T_ialdO (c := 5) (k := 0) (N := 12) (n := 45) dX6_door_44 (by decide) (by first | assumption | decide) rfl (vp_in_nI (by omega) (by decide)) rfl ?_
      refine J_iret dX6_door_45 rfl (kN_i _) ?_
      rw [if_pos e_10_0] at hq
      rw [nI_clamp (by omega), hw.1 j (by omega)]
      exact hq σ hc rfl
    by_cases e_10_1 : w = 1
    · rw [e_10_1]
      refine J_lookup (off := 36) (tgt := 46) dX6_door_10 (by decide) (by decide) (by decide) ?_
      refine J_aload_n (i := 0) (n := 47) dX6_door_46 rfl rfl rfl ?_
      refine T_getO (k := 0) (n := 50) wk_X6 dX6_door_47 wf_X6_10 (by decide) (by first | assumption | decide) rfl rfl ?_
      refine J_iload_n (i := 1) (n := 51) dX6_door_50 rfl rfl rfl ?_
      refine J_callVr (n := 54) wS_X5_glovesAt (c_W_glovesAt (d + 11) (by decide) hw hO hj ⟨rfl, rfl⟩) dX6_door_51 wm_X6_149 ⟨wM_X5_glovesAt, wV_X5_glovesAt⟩ rfl (T_recv (by decide) (by first | assumption | decide)) rfl rfl (Nat.le_of_ble_eq_true rfl) rfl ?_
      refine J_iret dX6_door_54 rfl (kN_i _) ?_
      rw [if_neg e_10_0, if_pos e_10_1] at hq
      exact hq σ hc rfl
    refine J_lookup (off := 45) (tgt := 55) dX6_door_10 (by decide) (by refine (lv_osw e_10_0 rfl).trans ?_; refine (lv_osw e_10_1 rfl).trans ?_; rfl) (by decide) ?_
    refine J_iconst (n := 56) dX6_door_55 kI_m1 rfl ?_
    refine J_iret dX6_door_56 rfl (kN_i _) ?_
    rw [if_neg e_10_0, if_neg e_10_1] at hq
    exact hq σ hc rfl
  · refine J_iconst (n := 8) dX6_door_7 kI_m1 rfl ?_
    refine J_iret dX6_door_8 rfl (kN_i _) ?_
    rw [nb_0] at c_4
    unfold sp_door at hq
    rw [c_4, if_neg (by decide)] at hq
    exact hq σ hc rfl

set_option maxHeartbeats 4000000 in
set_option maxRecDepth 100000 in
theorem c_G_stop {G : gx_G} {σ : gs_S} {Q : Option Value → gx_Hp → Prop} {S : pS} (d : Nat) (v : Int32) (hS : SOk S) (hc : cR σ S) (hq : ∀ τ, cR τ S → τ 7 0 = σ 7 0 → Q (some (.int (sp_stop S v))) (hp G τ)) : gx_K G yX6_stop mX6_stop (d + 12) 0 0 [.ref (gs_a G 6 0 0), .int v] (hp G σ) Q := by
  obtain ⟨hw, hs⟩ := hc.1
  have hO := hS.1.1
  have h4 : S.1.1.2.2 6 ≤ 4 := hO.2.2.2.2.1
  have h6 : S.1.1.2.2 7 ≤ 6 := hO.2.2.2.2.2.1
  have hm11 : S.1.1.2.2 8 ≤ 11 := hO.2.2.2.2.2.2.1
  have hn9 : S.1.1.2.2 9 ≤ 9999 := hO.2.2.2.2.2.2.2
  have hd9 : S.1.1.2.2 10 ≤ 999 := hS.1.2.2.1
  have e6 := hw.2.2.2.2 6 (by decide) (by decide)
  have e7 := hw.2.2.2.2 7 (by decide) (by decide)
  have e8 := hw.2.2.2.2 8 (by decide) (by decide)
  have e9 := hw.2.2.2.2 9 (by decide) (by decide)
  have e10 := hw.2.2.2.2 10 (by decide) (by decide)
  refine gx_K.of' (lv := [(0, _), (1, _)]) (by decide) rfl (by decide) (Nat.le_of_ble_eq_true rfl) rfl ?_
  refine J_aload_n (i := 0) (n := 1) dX6_stop_0 rfl rfl rfl ?_
  refine J_iload_n (i := 1) (n := 2) dX6_stop_1 rfl rfl rfl ?_
  refine J_callVr (n := 5) wS_X6_isCall (c_isCall (d + 10) v hw hO ⟨rfl, rfl⟩) dX6_stop_2 wm_X6_152 ⟨wM_X6_isCall, wV_X6_isCall⟩ rfl (T_recv (by decide) (by first | assumption | decide)) rfl rfl (Nat.le_of_ble_eq_true rfl) rfl ?_
  refine J_if_eq (tgt := 20) (n := 8) dX6_stop_5 (by decide) rfl (fun c_5 => ?_) (fun c_5 => ?_)
  · refine J_iconst (n := 21) dX6_stop_20 kI_m1 rfl ?_
    refine J_iret dX6_stop_21 rfl (kN_i _) ?_
    first
    | exact hq σ hc rfl
    | (rw [nb_0] at c_5
       unfold sp_stop at hq
       rw [if_neg (by rw [show isC S v = false from c_5]; decide)] at hq
       exact hq σ hc rfl)
  · rw [nb_t] at c_5
    unfold sp_stop at hq
    rw [if_pos (show isC S v = true from c_5)] at hq
    obtain ⟨j, hj, rfl⟩ := isC_of (S := S) c_5 hO
    rw [nat_nI (by omega)] at hq
    refine J_aload_n (i := 0) (n := 9) dX6_stop_8 rfl rfl rfl ?_
    refine T_getO (k := 0) (n := 12) wk_X6 dX6_stop_9 wf_X6_10 (by decide) (by first | assumption | decide) rfl rfl ?_
    refine T_getO (k := 4) (n := 15) wk_X5 dX6_stop_12 wf_X6_155 (by decide) (by first | assumption | decide) rfl rfl ?_
    refine J_iload_n (i := 1) (n := 16) dX6_stop_15 rfl rfl rfl ?_
    refine T_ialdO (c := 5) (k := 4) (N := 6) (n := 17) dX6_stop_16 (by decide) (by first | assumption | decide) rfl (vp_in_nI (by omega) (by decide)) rfl ?_
    rw [nI_clamp (by omega), hw.2.2.1 j hj]
    refine J_goto (tgt := 21) dX6_stop_17 (by decide) ?_
    refine J_iret dX6_stop_21 rfl (kN_i _) ?_
    first
    | exact hq σ hc rfl
    | (rw [nb_0] at c_5
       unfold sp_stop at hq
       rw [if_neg (by rw [show isC S v = false from c_5]; decide)] at hq
       exact hq σ hc rfl)

set_option maxHeartbeats 4000000 in
set_option maxRecDepth 100000 in
theorem c_G_alter {G : gx_G} {σ : gs_S} {Q : Option Value → gx_Hp → Prop} {S : pS} (d : Nat) (g w v : Int32) (hS : SOk S) (hc : cR σ S) (hq : ∀ τ, cR τ (sp_alter S g w v).2 → τ 7 0 = σ 7 0 → Q (some (.int (sp_alter S g w v).1)) (hp G τ)) : gx_K G yX6_alter mX6_alter (d + 12) 0 0 [.ref (gs_a G 6 0 0), .int g, .int w, .int v] (hp G σ) Q := by
  obtain ⟨hw, hs⟩ := hc.1
  have hO := hS.1.1
  have h4 : S.1.1.2.2 6 ≤ 4 := hO.2.2.2.2.1
  have h6 : S.1.1.2.2 7 ≤ 6 := hO.2.2.2.2.2.1
  have hm11 : S.1.1.2.2 8 ≤ 11 := hO.2.2.2.2.2.2.1
  have hn9 : S.1.1.2.2 9 ≤ 9999 := hO.2.2.2.2.2.2.2
  have hd9 : S.1.1.2.2 10 ≤ 999 := hS.1.2.2.1
  have e6 := hw.2.2.2.2 6 (by decide) (by decide)
  have e7 := hw.2.2.2.2 7 (by decide) (by decide)
  have e8 := hw.2.2.2.2 8 (by decide) (by decide)
  have e9 := hw.2.2.2.2 9 (by decide) (by decide)
  have e10 := hw.2.2.2.2 10 (by decide) (by decide)
  refine gx_K.of' (lv := [(0, _), (1, _), (2, _), (3, _)]) (by decide) rfl (by decide) (Nat.le_of_ble_eq_true rfl) rfl ?_
  refine J_aload_n (i := 0) (n := 1) dX6_alter_0 rfl rfl rfl ?_
  refine J_iload_n (i := 1) (n := 2) dX6_alter_1 rfl rfl rfl ?_
  refine J_iload_n (i := 2) (n := 3) dX6_alter_2 rfl rfl rfl ?_
  refine J_iload_n (i := 3) (n := 4) dX6_alter_3 rfl rfl rfl ?_
  refine J_callVr (n := 7) wS_X6_refusalOf (c_G_refusalOf (d + 9) g w v hS hc ⟨rfl, rfl⟩) dX6_alter_4 wm_X6_158 ⟨wM_X6_refusalOf, wV_X6_refusalOf⟩ rfl (T_recv (by decide) (by first | assumption | decide)) rfl rfl (Nat.le_of_ble_eq_true rfl) rfl ?_
  refine J_istore (i := 4) (n := 9) (lv' := [(0, _), (1, _), (2, _), (3, _), (4, _)]) dX6_alter_7 (by decide) rfl rfl ?_
  refine J_iload (i := 4) (n := 11) dX6_alter_9 rfl rfl ?_
  refine J_if_eq (tgt := 17) (n := 14) dX6_alter_11 (by decide) rfl (fun c_11 => ?_) (fun c_11 => ?_)
  · unfold sp_alter at hq
    rw [if_pos (show sp_no S g w v = nI 0 from c_11)] at hq
    obtain ⟨j, k, x, hj, hk, hx, rfl, rfl, rfl, hk0, hk1, hkp⟩ := no_ok (show sp_no S g w v = nI 0 from c_11) hO
    rw [nat_nI (by omega), nat_nI (by omega), nat_nI (by omega)] at hq
    refine J_aload_n (i := 0) (n := 18) dX6_alter_17 rfl rfl rfl ?_
    refine T_getO (k := 0) (n := 21) wk_X6 dX6_alter_18 wf_X6_10 (by decide) (by first | assumption | decide) rfl rfl ?_
    refine J_iload_n (i := 1) (n := 22) dX6_alter_21 rfl rfl rfl ?_
    refine J_iload_n (i := 2) (n := 23) dX6_alter_22 rfl rfl rfl ?_
    refine J_callVr (n := 26) wS_X5_partOf (c_W_partOf (d + 11) (by decide) hw hO hj hk ⟨rfl, rfl⟩) dX6_alter_23 wm_X6_125 ⟨wM_X5_partOf, wV_X5_partOf⟩ rfl (T_recv (by decide) (by first | assumption | decide)) rfl rfl (Nat.le_of_ble_eq_true rfl) rfl ?_
    refine J_istore (i := 5) (n := 28) (lv' := [(0, _), (1, _), (2, _), (3, _), (4, _), (5, _)]) dX6_alter_26 (by decide) rfl rfl ?_
    refine J_aload_n (i := 0) (n := 29) dX6_alter_28 rfl rfl rfl ?_
    refine T_getO (k := 0) (n := 32) wk_X6 dX6_alter_29 wf_X6_10 (by decide) (by first | assumption | decide) rfl rfl ?_
    refine J_iload_n (i := 1) (n := 33) dX6_alter_32 rfl rfl rfl ?_
    refine J_iload_n (i := 2) (n := 34) dX6_alter_33 rfl rfl rfl ?_
    refine J_iload_n (i := 3) (n := 35) dX6_alter_34 rfl rfl rfl ?_
    refine J_callVx (n := 38) wS_X5_putPart (K_eta 5 0 (c_W_putPart (Q := fun r h => r = none ∧ ∃ w1, wR w1 (pw_a S.1.1 (k + 1) j x) ∧ h = hp G (gs_set σ 5 0 w1)) (d + 11) (by decide) hw (by omega) hk (fun w1 h1 => ⟨rfl, w1, h1, rfl⟩))) dX6_alter_35 wm_X6_162 ⟨wM_X5_putPart, wV_X5_putPart⟩ rfl (T_recv (by decide) (by first | assumption | decide)) rfl rfl (Nat.le_of_ble_eq_true rfl) rfl (fun r h1 hq1 => ?_)
    obtain ⟨rfl, w1, hw1, rfl⟩ := hq1
    refine J_iload (i := 5) (n := 40) dX6_alter_38 rfl rfl ?_
    refine J_iret dX6_alter_40 rfl (kN_i _) ?_
    exact hq _ (hc.now hw1) (gs_neC (by decide))
  · refine J_iload (i := 4) (n := 16) dX6_alter_14 rfl rfl ?_
    refine J_iret dX6_alter_16 rfl (kN_i _) ?_
    unfold sp_alter at hq
    rw [if_neg (show ¬ sp_no S g w v = nI 0 from c_11)] at hq
    exact hq σ hc rfl

set_option maxHeartbeats 4000000 in
set_option maxRecDepth 100000 in
theorem c_G_fame {G : gx_G} {σ : gs_S} {Q : Option Value → gx_Hp → Prop} {S : pS} (d : Nat) (e v : Int32) (hS : SOk S) (hc : cR σ S) (hq : ∀ τ, cR τ (sp_fame S e v).2 → τ 7 0 = σ 7 0 → Q (some (.int (sp_fame S e v).1)) (hp G τ)) : gx_K G yX6_fame mX6_fame (d + 12) 0 0 [.ref (gs_a G 6 0 0), .int e, .int v] (hp G σ) Q := by
  obtain ⟨hw, hs⟩ := hc.1
  have hO := hS.1.1
  have h4 : S.1.1.2.2 6 ≤ 4 := hO.2.2.2.2.1
  have h6 : S.1.1.2.2 7 ≤ 6 := hO.2.2.2.2.2.1
  have hm11 : S.1.1.2.2 8 ≤ 11 := hO.2.2.2.2.2.2.1
  have hn9 : S.1.1.2.2 9 ≤ 9999 := hO.2.2.2.2.2.2.2
  have hd9 : S.1.1.2.2 10 ≤ 999 := hS.1.2.2.1
  have e6 := hw.2.2.2.2 6 (by decide) (by decide)
  have e7 := hw.2.2.2.2 7 (by decide) (by decide)
  have e8 := hw.2.2.2.2 8 (by decide) (by decide)
  have e9 := hw.2.2.2.2 9 (by decide) (by decide)
  have e10 := hw.2.2.2.2 10 (by decide) (by decide)
  refine gx_K.of' (lv := [(0, _), (1, _), (2, _)]) (by decide) rfl (by decide) (Nat.le_of_ble_eq_true rfl) rfl ?_
  refine J_iload_n (i := 1) (n := 1) dX6_fame_0 rfl rfl rfl ?_
  refine J_callSr (n := 4) wS_X6_isDoor (c_isDoor (d + 10) e ⟨rfl, rfl⟩) dX6_fame_1 wm_X6_143 wT_X6_isDoor rfl rfl (Nat.le_of_ble_eq_true rfl) rfl ?_
  refine J_if_eq (tgt := 16) (n := 7) dX6_fame_4 (by decide) rfl (fun c_4 => ?_) (fun c_4 => ?_)
  · refine J_iconst (n := 17) dX6_fame_16 kI_m1 rfl ?_
    refine J_iret dX6_fame_17 rfl (kN_i _) ?_
    unfold sp_fame at hq
    rw [if_neg (by first | (rw [nb_0] at c_4; rw [c_4, Bool.false_and]; decide) | (rw [nb_0] at c_13; rw [c_13, Bool.and_false]; decide))] at hq
    exact hq σ hc rfl
  · refine J_iload_n (i := 2) (n := 8) dX6_fame_7 rfl rfl rfl ?_
    refine J_bipush (n := 10) dX6_fame_8 kB_9 rfl ?_
    refine J_callSr (n := 13) wS_X6_isWithin (c_isWithin (d + 11) v 9 ⟨rfl, rfl⟩) dX6_fame_10 wm_X6_51 wT_X6_isWithin rfl rfl (Nat.le_of_ble_eq_true rfl) rfl ?_
    refine J_if_ne (tgt := 18) (n := 16) dX6_fame_13 (by decide) rfl (fun c_13 => ?_) (fun c_13 => ?_)
    · rw [nb_t] at c_4 c_13
      unfold sp_fame at hq
      rw [if_pos (by rw [c_4, c_13]; rfl)] at hq
      obtain ⟨j, hj, rfl⟩ := ix_of c_4 (by decide)
      obtain ⟨x, hx, rfl⟩ := ix_of c_13 (by decide)
      rw [nat_nI (by omega), nat_nI (by omega)] at hq
      refine J_aload_n (i := 0) (n := 19) dX6_fame_18 rfl rfl rfl ?_
      refine T_getO (k := 0) (n := 22) wk_X6 dX6_fame_19 wf_X6_10 (by decide) (by first | assumption | decide) rfl rfl ?_
      refine T_getO (k := 0) (n := 25) wk_X5 dX6_fame_22 wf_X6_146 (by decide) (by first | assumption | decide) rfl rfl ?_
      refine J_iload_n (i := 1) (n := 26) dX6_fame_25 rfl rfl rfl ?_
      refine T_ialdO (c := 5) (k := 0) (N := 12) (n := 27) dX6_fame_26 (by decide) (by first | assumption | decide) rfl (vp_in_nI (by omega) (by decide)) rfl ?_
      rw [nI_clamp (by omega), hw.1 j (by omega)]
      refine J_istore_n (i := 3) (n := 28) (lv' := [(0, _), (1, _), (2, _), (3, _)]) dX6_fame_27 rfl (by decide) rfl rfl ?_
      refine J_eta 5 0 ?_
      refine J_aload_n (i := 0) (n := 29) dX6_fame_28 rfl rfl rfl ?_
      refine T_getO (k := 0) (n := 32) wk_X6 dX6_fame_29 wf_X6_10 (by decide) (by first | assumption | decide) rfl rfl ?_
      refine T_get (k := 0) (n := 35) wk_X5 dX6_fame_32 wf_X6_146 (by decide) (by first | assumption | decide) rfl rfl ?_
      refine J_iload_n (i := 1) (n := 36) dX6_fame_35 rfl rfl rfl ?_
      refine J_iload_n (i := 2) (n := 37) dX6_fame_36 rfl rfl rfl ?_
      refine T_iast (c := 5) (k := 0) (N := 12) (n := 38) dX6_fame_37 (by decide) (by first | assumption | decide) (fun _ => rfl) (vp_in_nI (by omega) (by decide)) rfl ?_
      refine J_iload_n (i := 3) (n := 39) dX6_fame_38 rfl rfl rfl ?_
      refine J_iret dX6_fame_39 rfl (kN_i _) ?_
      rw [nI_clamp (by omega)]
      exact hq _ (hc.now (hw.row 0 j x)) (gs_neC (by decide))
    · refine J_iconst (n := 17) dX6_fame_16 kI_m1 rfl ?_
      refine J_iret dX6_fame_17 rfl (kN_i _) ?_
      unfold sp_fame at hq
      rw [if_neg (by first | (rw [nb_0] at c_4; rw [c_4, Bool.false_and]; decide) | (rw [nb_0] at c_13; rw [c_13, Bool.and_false]; decide))] at hq
      exact hq σ hc rfl

set_option maxHeartbeats 4000000 in
set_option maxRecDepth 100000 in
theorem c_G_leave {G : gx_G} {σ : gs_S} {Q : Option Value → gx_Hp → Prop} {S : pS} (d : Nat) (g : Int32) (hS : SOk S) (hc : cR σ S) (hq : ∀ τ, cR τ (sp_leave S g).2 → τ 7 0 = σ 7 0 → Q (some (.int (sp_leave S g).1)) (hp G τ)) : gx_K G yX6_leave mX6_leave (d + 12) 0 0 [.ref (gs_a G 6 0 0), .int g] (hp G σ) Q := by
  obtain ⟨hw, hs⟩ := hc.1
  have hO := hS.1.1
  have h4 : S.1.1.2.2 6 ≤ 4 := hO.2.2.2.2.1
  have h6 : S.1.1.2.2 7 ≤ 6 := hO.2.2.2.2.2.1
  have hm11 : S.1.1.2.2 8 ≤ 11 := hO.2.2.2.2.2.2.1
  have hn9 : S.1.1.2.2 9 ≤ 9999 := hO.2.2.2.2.2.2.2
  have hd9 : S.1.1.2.2 10 ≤ 999 := hS.1.2.2.1
  have e6 := hw.2.2.2.2 6 (by decide) (by decide)
  have e7 := hw.2.2.2.2 7 (by decide) (by decide)
  have e8 := hw.2.2.2.2 8 (by decide) (by decide)
  have e9 := hw.2.2.2.2 9 (by decide) (by decide)
  have e10 := hw.2.2.2.2 10 (by decide) (by decide)
  refine gx_K.of' (lv := [(0, _), (1, _)]) (by decide) rfl (by decide) (Nat.le_of_ble_eq_true rfl) rfl ?_
  refine J_aload_n (i := 0) (n := 1) dX6_leave_0 rfl rfl rfl ?_
  refine J_iload_n (i := 1) (n := 2) dX6_leave_1 rfl rfl rfl ?_
  refine J_callVr (n := 5) wS_X6_isGlove (c_isGlove (d + 10) g hw hO ⟨rfl, rfl⟩) dX6_leave_2 wm_X6_121 ⟨wM_X6_isGlove, wV_X6_isGlove⟩ rfl (T_recv (by decide) (by first | assumption | decide)) rfl rfl (Nat.le_of_ble_eq_true rfl) rfl ?_
  refine J_if_ne (tgt := 10) (n := 8) dX6_leave_5 (by decide) rfl (fun c_5 => ?_) (fun c_5 => ?_)
  · rw [nb_t] at c_5
    unfold sp_leave at hq
    rw [if_pos (show isG S g = true from c_5)] at hq
    obtain ⟨j, hj, rfl⟩ := isG_of (S := S) c_5 hO
    rw [show nat (nI j) = j from nI_clamp (by omega)] at hq
    obtain ⟨k3, a11, w20⟩ := hO.2.1 j hj
    obtain ⟨f1, f2, f3⟩ := hw.2.1 j hj
    refine J_aload_n (i := 0) (n := 11) dX6_leave_10 rfl rfl rfl ?_
    refine T_getO (k := 0) (n := 14) wk_X6 dX6_leave_11 wf_X6_10 (by decide) (by first | assumption | decide) rfl rfl ?_
    refine J_iload_n (i := 1) (n := 15) dX6_leave_14 rfl rfl rfl ?_
    refine J_callVr (n := 18) wS_X5_isPaired (c_W_isPaired (d + 11) (by decide) hw (by omega) ⟨rfl, rfl⟩) dX6_leave_15 wm_X6_129 ⟨wM_X5_isPaired, wV_X5_isPaired⟩ rfl (T_recv (by decide) (by first | assumption | decide)) rfl rfl (Nat.le_of_ble_eq_true rfl) rfl ?_
    refine J_if_ne (tgt := 24) (n := 21) dX6_leave_18 (by decide) rfl (fun c_18 => ?_) (fun c_18 => ?_)
    · rw [nb_t] at c_18
      rw [if_pos c_18] at hq
      refine J_eta 5 0 ?_
      refine J_aload_n (i := 0) (n := 25) dX6_leave_24 rfl rfl rfl ?_
      refine T_getO (k := 0) (n := 28) wk_X6 dX6_leave_25 wf_X6_10 (by decide) (by first | assumption | decide) rfl rfl ?_
      refine J_dup (n := 29) dX6_leave_28 rfl rfl ?_
      refine T_get (k := 5) (n := 32) wk_X5 dX6_leave_29 wf_X6_111 (by decide) (by first | assumption | decide) rfl rfl ?_
      refine J_iconst (n := 33) dX6_leave_32 kI_1 rfl ?_
      refine J_iload_n (i := 1) (n := 34) dX6_leave_33 rfl rfl rfl ?_
      refine J_ishl (n := 35) dX6_leave_34 rfl ?_
      refine J_iconst (n := 36) dX6_leave_35 kI_m1 rfl ?_
      refine J_ixor (n := 37) dX6_leave_36 rfl ?_
      refine J_iand (n := 38) dX6_leave_37 rfl ?_
      rw [hw.2.2.2.1, bx_clr _ (by omega)]
      refine T_putI (k := 5) (n := 41) wk_X5 dX6_leave_38 wf_X6_111 (by decide) (by first | assumption | decide) (kN_i _) rfl (Nat.le_of_ble_eq_true rfl) rfl rfl ?_
      refine J_aload_n (i := 0) (n := 42) dX6_leave_41 rfl rfl rfl ?_
      refine T_getO (k := 0) (n := 45) wk_X6 dX6_leave_42 wf_X6_10 (by decide) (by first | assumption | decide) rfl rfl ?_
      refine T_get (k := 2) (n := 48) wk_X5 dX6_leave_45 wf_X6_132 (by decide) (by first | assumption | decide) rfl rfl ?_
      refine J_iload_n (i := 1) (n := 49) dX6_leave_48 rfl rfl rfl ?_
      refine T_iald (c := 5) (k := 2) (N := 4) (n := 50) dX6_leave_49 (by decide) (by first | assumption | decide) rfl (vp_in_nI (by omega) (by decide)) rfl ?_
      rw [nI_clamp (by omega), show (gs_f (σ 5 0) 5 (nI (pw_bits (fun q => if q = j then false else S.1.1.2.1 q)))).1 2 j = nI (S.1.1.1 2 j) from f2, hS.1.2.1 j hj c_18]
      refine J_iret dX6_leave_50 rfl (kN_i _) ?_
      exact hq _ (hc.now (hw.pair _)) (gs_neC (by decide))
    · refine J_bipush (n := 23) dX6_leave_21 kB_m2 rfl ?_
      refine J_iret dX6_leave_23 rfl (kN_i _) ?_
      rw [nb_0] at c_18
      rw [if_neg (by rw [c_18]; decide)] at hq
      exact hq σ hc rfl
  · refine J_iconst (n := 9) dX6_leave_8 kI_m1 rfl ?_
    refine J_iret dX6_leave_9 rfl (kN_i _) ?_
    rw [nb_0] at c_5
    unfold sp_leave at hq
    rw [if_neg (by rw [show isG S g = false from c_5]; decide)] at hq
    exact hq σ hc rfl

set_option maxHeartbeats 4000000 in
set_option maxRecDepth 100000 in
theorem c_G_go {G : gx_G} {σ : gs_S} {Q : Option Value → gx_Hp → Prop} {S : pS} (d : Nat) (e : Int32) (hS : SOk S) (hc : cR σ S) (hq : ∀ τ, cR τ (sp_go S e).2 → τ 7 0 = σ 7 0 → Q (some (.int (sp_go S e).1)) (hp G τ)) : gx_K G yX6_go mX6_go (d + 12) 0 0 [.ref (gs_a G 6 0 0), .int e] (hp G σ) Q := by
  obtain ⟨hw, hs⟩ := hc.1
  have hO := hS.1.1
  have h4 : S.1.1.2.2 6 ≤ 4 := hO.2.2.2.2.1
  have h6 : S.1.1.2.2 7 ≤ 6 := hO.2.2.2.2.2.1
  have hm11 : S.1.1.2.2 8 ≤ 11 := hO.2.2.2.2.2.2.1
  have hn9 : S.1.1.2.2 9 ≤ 9999 := hO.2.2.2.2.2.2.2
  have hd9 : S.1.1.2.2 10 ≤ 999 := hS.1.2.2.1
  have e6 := hw.2.2.2.2 6 (by decide) (by decide)
  have e7 := hw.2.2.2.2 7 (by decide) (by decide)
  have e8 := hw.2.2.2.2 8 (by decide) (by decide)
  have e9 := hw.2.2.2.2 9 (by decide) (by decide)
  have e10 := hw.2.2.2.2 10 (by decide) (by decide)
  refine gx_K.of' (lv := [(0, _), (1, _)]) (by decide) rfl (by decide) (Nat.le_of_ble_eq_true rfl) rfl ?_
  refine J_iload_n (i := 1) (n := 1) dX6_go_0 rfl rfl rfl ?_
  refine J_callSr (n := 4) wS_X6_isDoor (c_isDoor (d + 10) e ⟨rfl, rfl⟩) dX6_go_1 wm_X6_143 wT_X6_isDoor rfl rfl (Nat.le_of_ble_eq_true rfl) rfl ?_
  refine J_if_ne (tgt := 9) (n := 7) dX6_go_4 (by decide) rfl (fun c_4 => ?_) (fun c_4 => ?_)
  · rw [nb_t] at c_4
    unfold sp_go at hq
    rw [if_pos c_4] at hq
    obtain ⟨j, hj, rfl⟩ := ix_of c_4 (by omega)
    rw [nat_nI (by omega)] at hq
    refine J_aload_n (i := 0) (n := 10) dX6_go_9 rfl rfl rfl ?_
    refine T_getO (k := 0) (n := 13) wk_X6 dX6_go_10 wf_X6_10 (by decide) (by first | assumption | decide) rfl rfl ?_
    refine T_getO (k := 8) (n := 16) wk_X5 dX6_go_13 wf_X6_105 (by decide) (by first | assumption | decide) rfl rfl ?_
    rw [e8]
    refine J_istore_n (i := 2) (n := 17) (lv' := [(0, _), (1, _), (2, _)]) dX6_go_16 rfl (by decide) rfl rfl ?_
    refine J_aload_n (i := 0) (n := 18) dX6_go_17 rfl rfl rfl ?_
    refine T_getO (k := 0) (n := 21) wk_X6 dX6_go_18 wf_X6_10 (by decide) (by first | assumption | decide) rfl rfl ?_
    refine J_iload_n (i := 1) (n := 22) dX6_go_21 rfl rfl rfl ?_
    refine J_callVx (n := 25) wS_X5_moveMan (K_eta 5 0 (c_W_moveMan (Q := fun r h => r = none ∧ ∃ w1, wR w1 (pw_move S.1.1 j) ∧ h = hp G (gs_set σ 5 0 w1)) (d + 10) (by decide) hw hO (fun w1 h1 => ⟨rfl, w1, h1, rfl⟩))) dX6_go_22 wm_X6_166 ⟨wM_X5_moveMan, wV_X5_moveMan⟩ rfl (T_recv (by decide) (by first | assumption | decide)) rfl rfl (Nat.le_of_ble_eq_true rfl) rfl (fun r h1 hq1 => ?_)
    obtain ⟨rfl, w1, hw1, rfl⟩ := hq1
    refine J_iload_n (i := 2) (n := 26) dX6_go_25 rfl rfl rfl ?_
    refine J_iret dX6_go_26 rfl (kN_i _) ?_
    exact hq _ (hc.now hw1) (gs_neC (by decide))
  · refine J_iconst (n := 8) dX6_go_7 kI_m1 rfl ?_
    refine J_iret dX6_go_8 rfl (kN_i _) ?_
    rw [nb_0] at c_4
    unfold sp_go at hq
    rw [c_4, if_neg (by decide)] at hq
    exact hq σ hc rfl

set_option maxHeartbeats 4000000 in
set_option maxRecDepth 100000 in
theorem c_G_call {G : gx_G} {σ : gs_S} {Q : Option Value → gx_Hp → Prop} {S : pS} (d : Nat) (e : Int32) (hS : SOk S) (hc : cR σ S) (hq : ∀ τ, cR τ (sp_call S e).2 → τ 7 0 = σ 7 0 → Q (some (.int (sp_call S e).1)) (hp G τ)) : gx_K G yX6_call mX6_call (d + 12) 0 0 [.ref (gs_a G 6 0 0), .int e] (hp G σ) Q := by
  obtain ⟨hw, hs⟩ := hc.1
  have hO := hS.1.1
  have h4 : S.1.1.2.2 6 ≤ 4 := hO.2.2.2.2.1
  have h6 : S.1.1.2.2 7 ≤ 6 := hO.2.2.2.2.2.1
  have hm11 : S.1.1.2.2 8 ≤ 11 := hO.2.2.2.2.2.2.1
  have hn9 : S.1.1.2.2 9 ≤ 9999 := hO.2.2.2.2.2.2.2
  have hd9 : S.1.1.2.2 10 ≤ 999 := hS.1.2.2.1
  have e6 := hw.2.2.2.2 6 (by decide) (by decide)
  have e7 := hw.2.2.2.2 7 (by decide) (by decide)
  have e8 := hw.2.2.2.2 8 (by decide) (by decide)
  have e9 := hw.2.2.2.2 9 (by decide) (by decide)
  have e10 := hw.2.2.2.2 10 (by decide) (by decide)
  refine gx_K.of' (lv := [(0, _), (1, _)]) (by decide) rfl (by decide) (Nat.le_of_ble_eq_true rfl) rfl ?_
  refine J_iload_n (i := 1) (n := 1) dX6_call_0 rfl rfl rfl ?_
  refine J_callSr (n := 4) wS_X6_isDoor (c_isDoor (d + 10) e ⟨rfl, rfl⟩) dX6_call_1 wm_X6_143 wT_X6_isDoor rfl rfl (Nat.le_of_ble_eq_true rfl) rfl ?_
  refine J_if_ne (tgt := 9) (n := 7) dX6_call_4 (by decide) rfl (fun c_4 => ?_) (fun c_4 => ?_)
  · rw [nb_t] at c_4
    unfold sp_call at hq
    rw [if_pos c_4] at hq
    obtain ⟨j, hj, rfl⟩ := ix_of c_4 (by omega)
    rw [nat_nI (by omega)] at hq
    refine J_aload_n (i := 0) (n := 10) dX6_call_9 rfl rfl rfl ?_
    refine T_getO (k := 0) (n := 13) wk_X6 dX6_call_10 wf_X6_10 (by decide) (by first | assumption | decide) rfl rfl ?_
    refine T_getO (k := 7) (n := 16) wk_X5 dX6_call_13 wf_X6_118 (by decide) (by first | assumption | decide) rfl rfl ?_
    rw [e7]
    refine J_bipush (n := 18) dX6_call_16 kB_6 rfl ?_
    refine J_icmp_lt (tgt := 24) (n := 21) dX6_call_18 (by decide) rfl (fun c_18 => ?_) (fun c_18 => ?_)
    · rw [nI_ltI (by omega) (by omega)] at c_18
      rw [if_neg (by omega)] at hq
      refine J_eta 5 0 ?_
      refine J_aload_n (i := 0) (n := 25) dX6_call_24 rfl rfl rfl ?_
      refine T_getO (k := 0) (n := 28) wk_X6 dX6_call_25 wf_X6_10 (by decide) (by first | assumption | decide) rfl rfl ?_
      refine T_get (k := 4) (n := 31) wk_X5 dX6_call_28 wf_X6_155 (by decide) (by first | assumption | decide) rfl rfl ?_
      refine J_aload_n (i := 0) (n := 32) dX6_call_31 rfl rfl rfl ?_
      refine T_getO (k := 0) (n := 35) wk_X6 dX6_call_32 wf_X6_10 (by decide) (by first | assumption | decide) rfl rfl ?_
      refine T_get (k := 7) (n := 38) wk_X5 dX6_call_35 wf_X6_118 (by decide) (by first | assumption | decide) rfl rfl ?_
      rw [e7]
      refine J_iload_n (i := 1) (n := 39) dX6_call_38 rfl rfl rfl ?_
      refine T_iast (c := 5) (k := 4) (N := 6) (n := 40) dX6_call_39 (by decide) (by first | assumption | decide) (fun _ => rfl) (vp_in_nI (by omega) (by decide)) rfl ?_
      rw [nI_clamp (by omega)]
      have hw1 := hw.row 4 (S.1.1.2.2 7) j
      have hr1 : (gs_w (σ 5 0) 4 (upd ((σ 5 0).1 4) (S.1.1.2.2 7) (nI j))).1 4 (S.1.1.2.2 7) = nI j := by simp [gs_w, va_up, upd]
      generalize gs_w (σ 5 0) 4 (upd ((σ 5 0).1 4) (S.1.1.2.2 7) (nI j)) = w1 at hw1 hr1 ⊢
      have g7 : w1.2.1 7 = nI (S.1.1.2.2 7) := hw1.2.2.2.2 7 (by decide) (by decide)
      refine J_aload_n (i := 0) (n := 41) dX6_call_40 rfl rfl rfl ?_
      refine T_getO (k := 0) (n := 44) wk_X6 dX6_call_41 wf_X6_10 (by decide) (by first | assumption | decide) rfl rfl ?_
      refine J_dup (n := 45) dX6_call_44 rfl rfl ?_
      refine T_get (k := 7) (n := 48) wk_X5 dX6_call_45 wf_X6_118 (by decide) (by first | assumption | decide) rfl rfl ?_
      refine J_iconst (n := 49) dX6_call_48 kI_1 rfl ?_
      refine J_iadd (n := 50) dX6_call_49 rfl ?_
      rw [g7, nI_add]
      refine T_putI (k := 7) (n := 53) wk_X5 dX6_call_50 wf_X6_118 (by decide) (by first | assumption | decide) (kN_i _) rfl (Nat.le_of_ble_eq_true rfl) rfl rfl ?_
      refine J_aload_n (i := 0) (n := 54) dX6_call_53 rfl rfl rfl ?_
      refine T_getO (k := 0) (n := 57) wk_X6 dX6_call_54 wf_X6_10 (by decide) (by first | assumption | decide) rfl rfl ?_
      refine T_get (k := 7) (n := 60) wk_X5 dX6_call_57 wf_X6_118 (by decide) (by first | assumption | decide) rfl rfl ?_
      refine J_iret dX6_call_60 rfl (kN_i _) ?_
      rw [show (gs_f w1 7 (nI (S.1.1.2.2 7 + 1))).2.1 7 = nI (S.1.1.2.2 7 + 1) from by simp [gs_f, upd]]
      refine hq _ (hc.now (hw1.calls _ (fun q h1 h2 => ?_))) (gs_neC (by decide))
      have eq : q = S.1.1.2.2 7 := by
        have h1 : S.1.1.2.2 7 ≤ q := h1
        omega
      subst eq
      rw [hr1]
      simp [pw_a]
    · rw [nI_ltI (by omega) (by omega)] at c_18
      refine J_bipush (n := 23) dX6_call_21 kB_m3 rfl ?_
      refine J_iret dX6_call_23 rfl (kN_i _) ?_
      rw [if_pos (by omega)] at hq
      exact hq σ hc rfl
  · refine J_iconst (n := 8) dX6_call_7 kI_m1 rfl ?_
    refine J_iret dX6_call_8 rfl (kN_i _) ?_
    rw [nb_0] at c_4
    unfold sp_call at hq
    rw [c_4, if_neg (by decide)] at hq
    exact hq σ hc rfl

set_option maxHeartbeats 4000000 in
set_option maxRecDepth 100000 in
theorem c_G_cut {G : gx_G} {σ : gs_S} {Q : Option Value → gx_Hp → Prop} {S : pS} (d : Nat) (n : Int32) (hS : SOk S) (hc : cR σ S) (hq : ∀ τ, cR τ (sp_cut S n).2 → τ 7 0 = σ 7 0 → Q (some (.int (sp_cut S n).1)) (hp G τ)) : gx_K G yX6_cut mX6_cut (d + 12) 0 0 [.ref (gs_a G 6 0 0), .int n] (hp G σ) Q := by
  obtain ⟨hw, hs⟩ := hc.1
  have hO := hS.1.1
  have h4 : S.1.1.2.2 6 ≤ 4 := hO.2.2.2.2.1
  have h6 : S.1.1.2.2 7 ≤ 6 := hO.2.2.2.2.2.1
  have hm11 : S.1.1.2.2 8 ≤ 11 := hO.2.2.2.2.2.2.1
  have hn9 : S.1.1.2.2 9 ≤ 9999 := hO.2.2.2.2.2.2.2
  have hd9 : S.1.1.2.2 10 ≤ 999 := hS.1.2.2.1
  have e6 := hw.2.2.2.2 6 (by decide) (by decide)
  have e7 := hw.2.2.2.2 7 (by decide) (by decide)
  have e8 := hw.2.2.2.2 8 (by decide) (by decide)
  have e9 := hw.2.2.2.2 9 (by decide) (by decide)
  have e10 := hw.2.2.2.2 10 (by decide) (by decide)
  refine gx_K.of' (lv := [(0, _), (1, _)]) (by decide) rfl (by decide) (Nat.le_of_ble_eq_true rfl) rfl ?_
  refine J_iload_n (i := 1) (n := 1) dX6_cut_0 rfl rfl rfl ?_
  refine J_aload_n (i := 0) (n := 2) dX6_cut_1 rfl rfl rfl ?_
  refine T_getO (k := 0) (n := 5) wk_X6 dX6_cut_2 wf_X6_10 (by decide) (by first | assumption | decide) rfl rfl ?_
  refine T_getO (k := 7) (n := 8) wk_X5 dX6_cut_5 wf_X6_118 (by decide) (by first | assumption | decide) rfl rfl ?_
  rw [e7]
  refine J_callSr (n := 11) wS_X6_isWithin (c_isWithin (d + 11) n (S.1.1.2.2 7) ⟨rfl, rfl⟩) dX6_cut_8 wm_X6_51 wT_X6_isWithin rfl rfl (Nat.le_of_ble_eq_true rfl) rfl ?_
  refine J_if_ne (tgt := 16) (n := 14) dX6_cut_11 (by decide) rfl (fun c_11 => ?_) (fun c_11 => ?_)
  · rw [nb_t] at c_11
    unfold sp_cut at hq
    rw [if_pos c_11] at hq
    obtain ⟨j, hj, rfl⟩ := ix_of c_11 (by omega)
    rw [nat_nI (by omega)] at hq
    refine J_aload_n (i := 0) (n := 17) dX6_cut_16 rfl rfl rfl ?_
    refine T_getO (k := 0) (n := 20) wk_X6 dX6_cut_17 wf_X6_10 (by decide) (by first | assumption | decide) rfl rfl ?_
    refine T_getO (k := 7) (n := 23) wk_X5 dX6_cut_20 wf_X6_118 (by decide) (by first | assumption | decide) rfl rfl ?_
    rw [e7]
    refine J_eta 5 0 ?_
    refine J_istore_n (i := 2) (n := 24) (lv' := [(0, _), (1, _), (2, _)]) dX6_cut_23 rfl (by decide) rfl rfl ?_
    refine J_aload_n (i := 0) (n := 25) dX6_cut_24 rfl rfl rfl ?_
    refine T_getO (k := 0) (n := 28) wk_X6 dX6_cut_25 wf_X6_10 (by decide) (by first | assumption | decide) rfl rfl ?_
    refine J_iload_n (i := 1) (n := 29) dX6_cut_28 rfl rfl rfl ?_
    refine T_putI (k := 7) (n := 32) wk_X5 dX6_cut_29 wf_X6_118 (by decide) (by first | assumption | decide) (kN_i _) rfl (Nat.le_of_ble_eq_true rfl) rfl rfl ?_
    refine J_iload_n (i := 2) (n := 33) dX6_cut_32 rfl rfl rfl ?_
    refine J_iret dX6_cut_33 rfl (kN_i _) ?_
    exact hq _ (hc.now (hw.calls j (fun q h1 h2 => absurd h1 (by omega)))) (gs_neC (by decide))
  · refine J_iconst (n := 15) dX6_cut_14 kI_m1 rfl ?_
    refine J_iret dX6_cut_15 rfl (kN_i _) ?_
    rw [nb_0] at c_11
    unfold sp_cut at hq
    rw [c_11, if_neg (by decide)] at hq
    exact hq σ hc rfl

set_option maxHeartbeats 4000000 in
set_option maxRecDepth 100000 in
theorem c_G_days {G : gx_G} {σ : gs_S} {Q : Option Value → gx_Hp → Prop} {S : pS} (d : Nat) (n : Int32) (hS : SOk S) (hc : cR σ S) (hq : ∀ τ, cR τ (sp_days S n).2 → τ 7 0 = σ 7 0 → Q (some (.int (sp_days S n).1)) (hp G τ)) : gx_K G yX6_days mX6_days (d + 12) 0 0 [.ref (gs_a G 6 0 0), .int n] (hp G σ) Q := by
  obtain ⟨hw, hs⟩ := hc.1
  have hO := hS.1.1
  have h4 : S.1.1.2.2 6 ≤ 4 := hO.2.2.2.2.1
  have h6 : S.1.1.2.2 7 ≤ 6 := hO.2.2.2.2.2.1
  have hm11 : S.1.1.2.2 8 ≤ 11 := hO.2.2.2.2.2.2.1
  have hn9 : S.1.1.2.2 9 ≤ 9999 := hO.2.2.2.2.2.2.2
  have hd9 : S.1.1.2.2 10 ≤ 999 := hS.1.2.2.1
  have e6 := hw.2.2.2.2 6 (by decide) (by decide)
  have e7 := hw.2.2.2.2 7 (by decide) (by decide)
  have e8 := hw.2.2.2.2 8 (by decide) (by decide)
  have e9 := hw.2.2.2.2 9 (by decide) (by decide)
  have e10 := hw.2.2.2.2 10 (by decide) (by decide)
  refine gx_K.of' (lv := [(0, _), (1, _)]) (by decide) rfl (by decide) (Nat.le_of_ble_eq_true rfl) rfl ?_
  refine J_iload_n (i := 1) (n := 1) dX6_days_0 rfl rfl rfl ?_
  refine J_bipush (n := 3) dX6_days_1 kB_30 rfl ?_
  refine J_callSr (n := 6) wS_X6_isWithin (c_isWithin (d + 11) n 30 ⟨rfl, rfl⟩) dX6_days_3 wm_X6_51 wT_X6_isWithin rfl rfl (Nat.le_of_ble_eq_true rfl) rfl ?_
  refine J_if_ne (tgt := 11) (n := 9) dX6_days_6 (by decide) rfl (fun c_6 => ?_) (fun c_6 => ?_)
  · rw [nb_t] at c_6
    unfold sp_days at hq
    rw [if_pos c_6] at hq
    obtain ⟨j, hj, rfl⟩ := ix_of c_6 (by omega)
    rw [nat_nI (by omega)] at hq
    refine J_aload_n (i := 0) (n := 12) dX6_days_11 rfl rfl rfl ?_
    refine T_getO (k := 0) (n := 15) wk_X6 dX6_days_12 wf_X6_10 (by decide) (by first | assumption | decide) rfl rfl ?_
    refine T_getO (k := 10) (n := 18) wk_X5 dX6_days_15 wf_X6_102 (by decide) (by first | assumption | decide) rfl rfl ?_
    refine J_iload_n (i := 1) (n := 19) dX6_days_18 rfl rfl rfl ?_
    refine J_iadd (n := 20) dX6_days_19 rfl ?_
    rw [e10, nI_add]
    refine J_sipush (n := 23) dX6_days_20 kS_999 rfl ?_
    refine J_icmp_le (tgt := 29) (n := 26) dX6_days_23 (by decide) rfl (fun c_23 => ?_) (fun c_23 => ?_)
    · rw [nI_leI (by omega) (by omega)] at c_23
      rw [if_pos (by omega)] at hq
      refine J_aload_n (i := 0) (n := 30) dX6_days_29 rfl rfl rfl ?_
      refine T_getO (k := 0) (n := 33) wk_X6 dX6_days_30 wf_X6_10 (by decide) (by first | assumption | decide) rfl rfl ?_
      refine T_getO (k := 9) (n := 36) wk_X5 dX6_days_33 wf_X6_108 (by decide) (by first | assumption | decide) rfl rfl ?_
      rw [e9]
      refine J_istore_n (i := 2) (n := 37) (lv' := [(0, _), (1, _), (2, _)]) dX6_days_36 rfl (by decide) rfl rfl ?_
      refine J_aload_n (i := 0) (n := 38) dX6_days_37 rfl rfl rfl ?_
      refine T_getO (k := 0) (n := 41) wk_X6 dX6_days_38 wf_X6_10 (by decide) (by first | assumption | decide) rfl rfl ?_
      refine J_iload_n (i := 1) (n := 42) dX6_days_41 rfl rfl rfl ?_
      refine J_callVx (n := 45) wS_X5_passDays (K_eta 5 0 (c_W_passDays (Q := fun r h => r = none ∧ ∃ w1, wR w1 (pw_days S.1.1 j) ∧ h = hp G (gs_set σ 5 0 w1)) (d + 6) (by decide) hw hO (by omega) (fun w1 h1 => ⟨rfl, w1, h1, rfl⟩))) dX6_days_42 wm_X6_170 ⟨wM_X5_passDays, wV_X5_passDays⟩ rfl (T_recv (by decide) (by first | assumption | decide)) rfl rfl (Nat.le_of_ble_eq_true rfl) rfl (fun r h1 hq1 => ?_)
      obtain ⟨rfl, w1, hw1, rfl⟩ := hq1
      refine J_aload_n (i := 0) (n := 46) dX6_days_45 rfl rfl rfl ?_
      refine T_getO (k := 0) (n := 49) wk_X6 dX6_days_46 wf_X6_10 (by decide) (by first | assumption | decide) rfl rfl ?_
      refine T_get (k := 9) (n := 52) wk_X5 dX6_days_49 wf_X6_108 (by decide) (by first | assumption | decide) rfl rfl ?_
      rw [hw1.2.2.2.2 9 (by decide) (by decide)]
      refine J_iload_n (i := 2) (n := 53) dX6_days_52 rfl rfl rfl ?_
      refine J_isub (n := 54) dX6_days_53 rfl ?_
      refine J_iret dX6_days_54 rfl (kN_i _) ?_
      exact hq _ (hc.now hw1) (gs_neC (by decide))
    · rw [nI_leI (by omega) (by omega)] at c_23
      refine J_bipush (n := 28) dX6_days_26 kB_m3 rfl ?_
      refine J_iret dX6_days_28 rfl (kN_i _) ?_
      rw [if_neg (by omega)] at hq
      exact hq σ hc rfl
  · refine J_iconst (n := 10) dX6_days_9 kI_m1 rfl ?_
    refine J_iret dX6_days_10 rfl (kN_i _) ?_
    rw [nb_0] at c_6
    unfold sp_days at hq
    rw [c_6, if_neg (by decide)] at hq
    exact hq σ hc rfl

