theorem mR.tape {v : gs_Ob} {S : pS} (h : mR v S) {w : gs_Ob} {t : (Nat → Nat) × Nat} (h1 : ∀ k, k ≠ 10 → w.1 k = v.1 k) (h2 : ∀ k, k ≠ 11 → w.2.1 k = v.2.1 k) (h3 : ∀ q, q < t.2 → w.1 10 q = nI (t.1 q)) (h4 : w.2.1 11 = nI t.2) : mR w (pS_t S t) := by
  obtain ⟨k1, k2, k3, k4, k5⟩ := h
  refine ⟨by rw [h1 0 (by decide), h2 3 (by decide)]; exact k1, fun k hk => by rw [h1 2 (by decide), h1 0 (by decide)]; exact k2 k hk, ⟨h3, h4⟩, by rw [h2 16 (by decide), h2 28 (by decide)]; exact k4, fun k hk => by rw [h1 25 (by decide), h1 26 (by decide), h1 27 (by decide)]; exact k5 k hk⟩
theorem pw_mv_aR {a : Nat → Int32} {p : pw} {e : Nat} (h : aR (upd a 28 (nI e)) (pw_f p 8 e)) : aR (upd a 28 (nI e)) (pw_move p e) := by
  obtain ⟨h1, h2, h3, h4, h5, h6, h7⟩ := h
  refine ⟨fun j hj => ?_, fun g hg => ?_, fun j hj => ?_, h4, h5, h6, h7⟩
  · rw [h1 j hj]; simp [pw_move, pw_mv, pw_f]
  · obtain ⟨c0, c1, c2, c3⟩ := h2 g hg
    refine ⟨?_, fun hp => ?_, ?_, c3⟩
    · rw [c0]; simp [pw_move, pw_mv, pw_f]
    · have hp1 : p.2.1 g = false := hp
      rw [c1 hp]; simp [pw_move, pw_mv, pw_f, hp1]
    · rw [c2]; simp [pw_move, pw_mv, pw_f]
  · rw [h3 j hj]; simp [pw_move, pw_mv, pw_f]
set_option maxHeartbeats 4000000 in
set_option maxRecDepth 100000 in
theorem c_N_feed {G : gx_G} {σ : gs_S} {Q : Option Value → gx_Hp → Prop} {S : pS} {v : gs_Ob} (d : Nat) (x : Int32) (hS : SOk S) (hm : mR v S) (hq : ∀ v1, mR v1 (sp_feed S x).2 → Q (some (.int (sp_feed S x).1)) (hp G (gs_set σ 7 0 v1))) : gx_K G yX7_feed mX7_feed (d + 12) 0 0 [.ref (gs_a G 7 0 0), .int x] (hp G (gs_set σ 7 0 v)) Q := by
  obtain ⟨⟨ha, hsn, hgl⟩, hkm, htp, hft, hsh⟩ := id hm
  have hO := hS.1.1
  have hB := hO.aB
  have h4 : S.1.1.2.2 6 ≤ 4 := hO.2.2.2.2.1
  have h6 : S.1.1.2.2 7 ≤ 6 := hO.2.2.2.2.2.1
  have hm11 : S.1.1.2.2 8 ≤ 11 := hO.2.2.2.2.2.2.1
  have hn9 : S.1.1.2.2 9 ≤ 9999 := hO.2.2.2.2.2.2.2
  have hd9 : S.1.1.2.2 10 ≤ 999 := hS.1.2.2.1
  have h160 : S.2.2.2.1.2 ≤ 160 := hS.2.2.1.1
  have e28 := ha.2.2.2.1
  have e29 := ha.2.2.2.2.1
  have e36 := ha.2.2.2.2.2.1
  have e37 := ha.2.2.2.2.2.2
  have g0 : gs_set σ 7 0 v 7 0 = v := gs_same _ _ _ _
  have hgl0 : (gs_set σ 7 0 v 7 0).2.1 3 = nI (S.1.1.2.2 6) := by rw [g0]; exact hgl
  have ha0 : aR ((gs_set σ 7 0 v 7 0).1 0) S.1.1 := by rw [g0]; exact ha
  refine gx_K.of' (lv := [(0, _), (1, _)]) (by decide) rfl (by decide) (Nat.le_of_ble_eq_true rfl) rfl ?_
  refine J_iload_n (i := 1) (n := 1) dX7_feed_0 rfl rfl rfl ?_
  refine J_i2l (n := 2) dX7_feed_1 rfl ?_
  refine J_lconst (n := 3) dX7_feed_2 kL_0 rfl ?_
  refine J_ldc2 (n := 6) dX7_feed_3 wd_X7_70 rfl ?_
  refine J_callSr (n := 9) wS_X7_in (c_M_in (d + 11) x 127 (by decide) ⟨rfl, rfl⟩) dX7_feed_6 wm_X7_72 wT_X7_in rfl rfl (Nat.le_of_ble_eq_true rfl) rfl ?_
  refine J_if_ne (tgt := 14) (n := 12) dX7_feed_9 (by decide) rfl (fun c_9 => ?_) (fun c_9 => ?_)
  · rw [nb_t] at c_9
    unfold sp_feed at hq
    rw [if_pos c_9] at hq
    obtain ⟨j, hj, rfl⟩ := ix_of c_9 (by omega)
    rw [nat_nI (by omega)] at hq
    refine J_aload_n (i := 0) (n := 15) dX7_feed_14 rfl rfl rfl ?_
    refine T_get (k := 11) (n := 18) wk_X7 dX7_feed_15 wf_X7_76 (by decide) (by first | assumption | decide) rfl rfl ?_
    rw [htp.2]
    refine J_sipush (n := 21) dX7_feed_18 kS_160 rfl ?_
    refine J_icmp_ne (tgt := 27) (n := 24) dX7_feed_21 (by decide) rfl (fun c_21 => ?_) (fun c_21 => ?_)
    · rw [nI_eq (by omega) (by omega)] at c_21
      rw [if_neg (by omega)] at hq
      refine J_aload_n (i := 0) (n := 28) dX7_feed_27 rfl rfl rfl ?_
      refine T_get (k := 10) (n := 31) wk_X7 dX7_feed_28 wf_X7_23 (by decide) (by first | assumption | decide) rfl rfl ?_
      refine J_aload_n (i := 0) (n := 32) dX7_feed_31 rfl rfl rfl ?_
      refine T_get (k := 11) (n := 35) wk_X7 dX7_feed_32 wf_X7_76 (by decide) (by first | assumption | decide) rfl rfl ?_
      rw [htp.2]
      refine J_iload_n (i := 1) (n := 36) dX7_feed_35 rfl rfl rfl ?_
      refine T_iast (c := 7) (k := 10) (N := 160) (n := 37) dX7_feed_36 (by decide) (by first | assumption | decide) (fun _ => rfl) (vp_in_nI (by omega) (by decide)) rfl ?_
      rw [nI_clamp (by omega)]
      refine J_aload_n (i := 0) (n := 38) dX7_feed_37 rfl rfl rfl ?_
      refine J_dup (n := 39) dX7_feed_38 rfl rfl ?_
      refine T_get (k := 11) (n := 42) wk_X7 dX7_feed_39 wf_X7_76 (by decide) (by first | assumption | decide) rfl rfl ?_
      refine J_iconst (n := 43) dX7_feed_42 kI_1 rfl ?_
      refine J_iadd (n := 44) dX7_feed_43 rfl ?_
      rw [show (gs_w v 10 (upd (v.1 10) S.2.2.2.1.2 (nI j))).2.1 11 = nI S.2.2.2.1.2 from htp.2, nI_add]
      refine T_putI (k := 11) (n := 47) wk_X7 dX7_feed_44 wf_X7_76 (by decide) (by first | assumption | decide) (kN_i _) rfl (Nat.le_of_ble_eq_true rfl) rfl rfl ?_
      refine J_aload_n (i := 0) (n := 48) dX7_feed_47 rfl rfl rfl ?_
      refine T_get (k := 11) (n := 51) wk_X7 dX7_feed_48 wf_X7_76 (by decide) (by first | assumption | decide) rfl rfl ?_
      refine J_iret dX7_feed_51 rfl (kN_i _) ?_
      rw [show (gs_f (gs_w v 10 (upd (v.1 10) S.2.2.2.1.2 (nI j))) 11 (nI (S.2.2.2.1.2 + 1))).2.1 11 = nI (S.2.2.2.1.2 + 1) from by simp [gs_f, upd]]
      refine hq _ (hm.tape (fun k hk => ?_) (fun k hk => ?_) (fun q hq1 => ?_) ?_)
      · simp [gs_f, gs_w, va_up, hk]
      · simp [gs_f, gs_w, upd, hk]
      · by_cases e : q = S.2.2.2.1.2
        · subst e; simp [gs_f, gs_w, va_up, upd]
        · simp [gs_f, gs_w, va_up, upd, e]; exact htp.1 q (by dsimp only at hq1; omega)
      · simp [gs_f, upd]
    · rw [nI_eq (by omega) (by omega)] at c_21
      refine J_bipush (n := 26) dX7_feed_24 kB_m3 rfl ?_
      refine J_iret dX7_feed_26 rfl (kN_i _) ?_
      rw [if_pos (by omega)] at hq
      exact hq v hm
  · refine J_iconst (n := 13) dX7_feed_12 kI_m1 rfl ?_
    refine J_iret dX7_feed_13 rfl (kN_i _) ?_
    rw [nb_0] at c_9
    unfold sp_feed at hq
    rw [c_9, if_neg (by decide)] at hq
    exact hq v hm

set_option maxHeartbeats 4000000 in
set_option maxRecDepth 100000 in
theorem c_N_end {G : gx_G} {σ : gs_S} {Q : Option Value → gx_Hp → Prop} {S : pS} {v : gs_Ob} (d : Nat) (x : Int32) (hS : SOk S) (hm : mR v S) (hq : ∀ v1, mR v1 (sp_end S x).2 → Q (some (.int (sp_end S x).1)) (hp G (gs_set σ 7 0 v1))) : gx_K G yX7_end mX7_end (d + 12) 0 0 [.ref (gs_a G 7 0 0), .int x] (hp G (gs_set σ 7 0 v)) Q := by
  obtain ⟨⟨ha, hsn, hgl⟩, hkm, htp, hft, hsh⟩ := id hm
  have hO := hS.1.1
  have hB := hO.aB
  have h4 : S.1.1.2.2 6 ≤ 4 := hO.2.2.2.2.1
  have h6 : S.1.1.2.2 7 ≤ 6 := hO.2.2.2.2.2.1
  have hm11 : S.1.1.2.2 8 ≤ 11 := hO.2.2.2.2.2.2.1
  have hn9 : S.1.1.2.2 9 ≤ 9999 := hO.2.2.2.2.2.2.2
  have hd9 : S.1.1.2.2 10 ≤ 999 := hS.1.2.2.1
  have h160 : S.2.2.2.1.2 ≤ 160 := hS.2.2.1.1
  have e28 := ha.2.2.2.1
  have e29 := ha.2.2.2.2.1
  have e36 := ha.2.2.2.2.2.1
  have e37 := ha.2.2.2.2.2.2
  have g0 : gs_set σ 7 0 v 7 0 = v := gs_same _ _ _ _
  have hgl0 : (gs_set σ 7 0 v 7 0).2.1 3 = nI (S.1.1.2.2 6) := by rw [g0]; exact hgl
  have ha0 : aR ((gs_set σ 7 0 v 7 0).1 0) S.1.1 := by rw [g0]; exact ha
  refine gx_K.of' (lv := [(0, _), (1, _)]) (by decide) rfl (by decide) (Nat.le_of_ble_eq_true rfl) rfl ?_
  refine J_iload_n (i := 1) (n := 1) dX7_end_0 rfl rfl rfl ?_
  refine J_i2l (n := 2) dX7_end_1 rfl ?_
  refine J_lconst (n := 3) dX7_end_2 kL_0 rfl ?_
  refine J_aload_n (i := 0) (n := 4) dX7_end_3 rfl rfl rfl ?_
  refine T_get (k := 11) (n := 7) wk_X7 dX7_end_4 wf_X7_76 (by decide) (by first | assumption | decide) rfl rfl ?_
  skip
  refine J_i2l (n := 8) dX7_end_7 rfl ?_
  rw [htp.2, nI_l (by omega)]
  refine J_callSr (n := 11) wS_X7_in (c_M_in (d + 11) x S.2.2.2.1.2 (by omega) ⟨rfl, rfl⟩) dX7_end_8 wm_X7_72 wT_X7_in rfl rfl (Nat.le_of_ble_eq_true rfl) rfl ?_
  refine J_if_ne (tgt := 16) (n := 14) dX7_end_11 (by decide) rfl (fun c_11 => ?_) (fun c_11 => ?_)
  · rw [nb_t] at c_11
    unfold sp_end at hq
    rw [if_pos c_11] at hq
    obtain ⟨j, hj, rfl⟩ := ix_of c_11 (by omega)
    rw [nat_nI (by omega)] at hq
    refine J_aload_n (i := 0) (n := 17) dX7_end_16 rfl rfl rfl ?_
    refine T_get (k := 11) (n := 20) wk_X7 dX7_end_17 wf_X7_76 (by decide) (by first | assumption | decide) rfl rfl ?_
    rw [htp.2]
    refine J_istore_n (i := 2) (n := 21) (lv' := [(0, _), (1, _), (2, _)]) dX7_end_20 rfl (by decide) rfl rfl ?_
    refine J_aload_n (i := 0) (n := 22) dX7_end_21 rfl rfl rfl ?_
    refine J_iload_n (i := 1) (n := 23) dX7_end_22 rfl rfl rfl ?_
    refine T_putI (k := 11) (n := 26) wk_X7 dX7_end_23 wf_X7_76 (by decide) (by first | assumption | decide) (kN_i _) rfl (Nat.le_of_ble_eq_true rfl) rfl rfl ?_
    refine J_iload_n (i := 2) (n := 27) dX7_end_26 rfl rfl rfl ?_
    refine J_iret dX7_end_27 rfl (kN_i _) ?_
    refine hq _ (hm.tape (fun k hk => rfl) (fun k hk => ?_) (fun q hq1 => htp.1 q (by dsimp only at hq1; omega)) ?_)
    · simp [gs_f, upd, hk]
    · simp [gs_f, upd]
  · refine J_iconst (n := 15) dX7_end_14 kI_m1 rfl ?_
    refine J_iret dX7_end_15 rfl (kN_i _) ?_
    rw [nb_0] at c_11
    unfold sp_end at hq
    rw [c_11, if_neg (by decide)] at hq
    exact hq v hm

set_option maxHeartbeats 4000000 in
set_option maxRecDepth 100000 in
theorem c_N_fault {G : gx_G} {σ : gs_S} {Q : Option Value → gx_Hp → Prop} {S : pS} {v : gs_Ob} (d : Nat) (hS : SOk S) (hm : mR v S) (hq : ∀ v1, mR v1 S → Q (some (.int (nI (S.2.2.2.2.1 0)))) (hp G (gs_set σ 7 0 v1))) : gx_K G yX7_fault mX7_fault (d + 12) 0 0 [.ref (gs_a G 7 0 0)] (hp G (gs_set σ 7 0 v)) Q := by
  refine gx_K.of' (lv := [(0, _)]) (by decide) rfl (by decide) (Nat.le_of_ble_eq_true rfl) rfl ?_
  refine J_aload_n (i := 0) (n := 1) dX7_fault_0 rfl rfl rfl ?_
  refine T_get (k := 16) (n := 4) wk_X7 dX7_fault_1 wf_X7_79 (by decide) (by first | assumption | decide) rfl rfl ?_
  refine J_iret dX7_fault_4 rfl (kN_i _) ?_
  rw [hm.2.2.2.1.1]
  exact hq v hm

set_option maxHeartbeats 4000000 in
set_option maxRecDepth 100000 in
theorem c_N_torn {G : gx_G} {σ : gs_S} {Q : Option Value → gx_Hp → Prop} {S : pS} {v : gs_Ob} (d : Nat) (hS : SOk S) (hm : mR v S) (hq : ∀ v1, mR v1 S → Q (some (.int (nI (S.2.2.2.2.1 1)))) (hp G (gs_set σ 7 0 v1))) : gx_K G yX7_torn mX7_torn (d + 12) 0 0 [.ref (gs_a G 7 0 0)] (hp G (gs_set σ 7 0 v)) Q := by
  refine gx_K.of' (lv := [(0, _)]) (by decide) rfl (by decide) (Nat.le_of_ble_eq_true rfl) rfl ?_
  refine J_aload_n (i := 0) (n := 1) dX7_torn_0 rfl rfl rfl ?_
  refine T_get (k := 28) (n := 4) wk_X7 dX7_torn_1 wf_X7_315 (by decide) (by first | assumption | decide) rfl rfl ?_
  refine J_iret dX7_torn_4 rfl (kN_i _) ?_
  rw [hm.2.2.2.1.2]
  exact hq v hm

set_option maxHeartbeats 4000000 in
set_option maxRecDepth 100000 in
theorem c_N_rule {G : gx_G} {σ : gs_S} {Q : Option Value → gx_Hp → Prop} {S : pS} {v : gs_Ob} (d : Nat) (w : Int32) (hS : SOk S) (hm : mR v S) (hq : ∀ v1, mR v1 S → Q (some (.int (sp_rule S w))) (hp G (gs_set σ 7 0 v1))) : gx_K G yX7_rule mX7_rule (d + 12) 0 0 [.ref (gs_a G 7 0 0), .int w] (hp G (gs_set σ 7 0 v)) Q := by
  obtain ⟨⟨ha, hsn, hgl⟩, hkm, htp, hft, hsh⟩ := id hm
  have hO := hS.1.1
  have hB := hO.aB
  have h4 : S.1.1.2.2 6 ≤ 4 := hO.2.2.2.2.1
  have h6 : S.1.1.2.2 7 ≤ 6 := hO.2.2.2.2.2.1
  have hm11 : S.1.1.2.2 8 ≤ 11 := hO.2.2.2.2.2.2.1
  have hn9 : S.1.1.2.2 9 ≤ 9999 := hO.2.2.2.2.2.2.2
  have hd9 : S.1.1.2.2 10 ≤ 999 := hS.1.2.2.1
  have h160 : S.2.2.2.1.2 ≤ 160 := hS.2.2.1.1
  have e28 := ha.2.2.2.1
  have e29 := ha.2.2.2.2.1
  have e36 := ha.2.2.2.2.2.1
  have e37 := ha.2.2.2.2.2.2
  have g0 : gs_set σ 7 0 v 7 0 = v := gs_same _ _ _ _
  have hgl0 : (gs_set σ 7 0 v 7 0).2.1 3 = nI (S.1.1.2.2 6) := by rw [g0]; exact hgl
  have ha0 : aR ((gs_set σ 7 0 v 7 0).1 0) S.1.1 := by rw [g0]; exact ha
  refine gx_K.of' (lv := [(0, _), (1, _)]) (by decide) rfl (by decide) (Nat.le_of_ble_eq_true rfl) rfl ?_
  refine J_aload_n (i := 0) (n := 1) dX7_rule_0 rfl rfl rfl ?_
  refine J_callVx (n := 4) wS_X7_starts (c_M_starts (Q := fun r h => r = none ∧ ∃ v1, mN v1 S.1.1 ∧ mF v v1 ∧ h = hp G (gs_set σ 7 0 v1)) (d + 11) (fun v1 h1 _ h3 h4 => ⟨rfl, v1, ⟨ha.ext hB h1, by rw [h4]; exact hgl⟩, ⟨h3, h4, h1⟩, rfl⟩)) dX7_rule_1 wm_X7_201 ⟨wM_X7_starts, wV_X7_starts⟩ rfl (T_recv (by decide) (by first | assumption | decide)) rfl rfl (Nat.le_of_ble_eq_true rfl) rfl (fun r h1 hq1 => ?_)
  obtain ⟨rfl, v1, hN1, hE1, rfl⟩ := hq1
  have hN0 : mN (gs_set σ 7 0 v1 7 0) S.1.1 := by rw [gs_same]; exact hN1
  have hm1 : mR v1 S := hm.f hE1
  refine J_iload_n (i := 1) (n := 5) dX7_rule_4 rfl rfl rfl ?_
  by_cases e_5_0 : w = 0
  · rw [e_5_0]
    refine J_tableIn (off := 43) (tgt := 48) dX7_rule_5 (by decide) (by decide) (by decide) (by decide) ?_
    refine J_aload_n (i := 0) (n := 49) dX7_rule_48 rfl rfl rfl ?_
    refine T_get (k := 3) (n := 52) wk_X7 dX7_rule_49 wf_X7_67 (by decide) (by first | assumption | decide) rfl rfl ?_
    refine J_iret dX7_rule_52 rfl (kN_i _) ?_
    unfold sp_rule at hq
    rw [if_pos e_5_0] at hq
    rw [hN1.2]
    exact hq v1 hm1
  by_cases e_5_1 : w = 1
  · rw [e_5_1]
    refine J_tableIn (off := 48) (tgt := 53) dX7_rule_5 (by decide) (by decide) (by decide) (by decide) ?_
    refine J_aload_n (i := 0) (n := 54) dX7_rule_53 rfl rfl rfl ?_
    refine T_get (k := 0) (n := 57) wk_X7 dX7_rule_54 wf_X7_7 (by decide) (by first | assumption | decide) rfl rfl ?_
    refine J_bipush (n := 59) dX7_rule_57 kB_37 rfl ?_
    refine T_iald (c := 7) (k := 0) (N := 171) (n := 60) dX7_rule_59 (by decide) (by first | assumption | decide) rfl (vp_in_nI (by decide) (by decide)) rfl ?_
    refine J_iret dX7_rule_60 rfl (kN_i _) ?_
    unfold sp_rule at hq
    rw [if_neg e_5_0, if_pos e_5_1] at hq
    rw [nI_clamp (by decide), hE1.1 0 (by decide), e37]
    exact hq v1 hm1
  by_cases e_5_2 : w = 2
  · rw [e_5_2]
    refine J_tableIn (off := 56) (tgt := 61) dX7_rule_5 (by decide) (by decide) (by decide) (by decide) ?_
    refine J_aload_n (i := 0) (n := 62) dX7_rule_61 rfl rfl rfl ?_
    refine T_get (k := 0) (n := 65) wk_X7 dX7_rule_62 wf_X7_7 (by decide) (by first | assumption | decide) rfl rfl ?_
    refine J_bipush (n := 67) dX7_rule_65 kB_28 rfl ?_
    refine T_iald (c := 7) (k := 0) (N := 171) (n := 68) dX7_rule_67 (by decide) (by first | assumption | decide) rfl (vp_in_nI (by decide) (by decide)) rfl ?_
    refine J_iret dX7_rule_68 rfl (kN_i _) ?_
    unfold sp_rule at hq
    rw [if_neg e_5_0, if_neg e_5_1, if_pos e_5_2] at hq
    rw [nI_clamp (by decide), hE1.1 0 (by decide), e28]
    exact hq v1 hm1
  by_cases e_5_3 : w = 3
  · rw [e_5_3]
    refine J_tableIn (off := 64) (tgt := 69) dX7_rule_5 (by decide) (by decide) (by decide) (by decide) ?_
    refine J_aload_n (i := 0) (n := 70) dX7_rule_69 rfl rfl rfl ?_
    refine T_get (k := 0) (n := 73) wk_X7 dX7_rule_70 wf_X7_7 (by decide) (by first | assumption | decide) rfl rfl ?_
    refine J_bipush (n := 75) dX7_rule_73 kB_36 rfl ?_
    refine T_iald (c := 7) (k := 0) (N := 171) (n := 76) dX7_rule_75 (by decide) (by first | assumption | decide) rfl (vp_in_nI (by decide) (by decide)) rfl ?_
    refine J_iret dX7_rule_76 rfl (kN_i _) ?_
    unfold sp_rule at hq
    rw [if_neg e_5_0, if_neg e_5_1, if_neg e_5_2, if_pos e_5_3] at hq
    rw [nI_clamp (by decide), hE1.1 0 (by decide), e36]
    exact hq v1 hm1
  by_cases e_5_4 : w = 4
  · rw [e_5_4]
    refine J_tableIn (off := 72) (tgt := 77) dX7_rule_5 (by decide) (by decide) (by decide) (by decide) ?_
    refine J_aload_n (i := 0) (n := 78) dX7_rule_77 rfl rfl rfl ?_
    refine J_callVr (n := 81) wS_X7_pairedNow (c_M_pairedNow (d + 9) hN0 hO ⟨rfl, rfl⟩) dX7_rule_78 wm_X7_204 ⟨wM_X7_pairedNow, wV_X7_pairedNow⟩ rfl (T_recv (by decide) (by first | assumption | decide)) rfl rfl (Nat.le_of_ble_eq_true rfl) rfl ?_
    refine J_iret dX7_rule_81 rfl (kN_i _) ?_
    unfold sp_rule at hq
    rw [if_neg e_5_0, if_neg e_5_1, if_neg e_5_2, if_neg e_5_3, if_pos e_5_4] at hq
    exact hq v1 hm1
  by_cases e_5_5 : w = 5
  · rw [e_5_5]
    refine J_tableIn (off := 77) (tgt := 82) dX7_rule_5 (by decide) (by decide) (by decide) (by decide) ?_
    refine J_aload_n (i := 0) (n := 83) dX7_rule_82 rfl rfl rfl ?_
    refine J_callVr (n := 86) wS_X7_coldNow (c_M_coldNow (d + 8) hN0 hO ⟨rfl, rfl⟩) dX7_rule_83 wm_X7_207 ⟨wM_X7_coldNow, wV_X7_coldNow⟩ rfl (T_recv (by decide) (by first | assumption | decide)) rfl rfl (Nat.le_of_ble_eq_true rfl) rfl ?_
    refine J_iret dX7_rule_86 rfl (kN_i _) ?_
    unfold sp_rule at hq
    rw [if_neg e_5_0, if_neg e_5_1, if_neg e_5_2, if_neg e_5_3, if_neg e_5_4, if_pos e_5_5] at hq
    exact hq v1 hm1
  by_cases e_5_6 : w = 6
  · rw [e_5_6]
    refine J_tableIn (off := 82) (tgt := 87) dX7_rule_5 (by decide) (by decide) (by decide) (by decide) ?_
    refine J_aload_n (i := 0) (n := 88) dX7_rule_87 rfl rfl rfl ?_
    refine T_get (k := 0) (n := 91) wk_X7 dX7_rule_88 wf_X7_7 (by decide) (by first | assumption | decide) rfl rfl ?_
    refine J_bipush (n := 93) dX7_rule_91 kB_29 rfl ?_
    refine T_iald (c := 7) (k := 0) (N := 171) (n := 94) dX7_rule_93 (by decide) (by first | assumption | decide) rfl (vp_in_nI (by decide) (by decide)) rfl ?_
    refine J_iret dX7_rule_94 rfl (kN_i _) ?_
    unfold sp_rule at hq
    rw [if_neg e_5_0, if_neg e_5_1, if_neg e_5_2, if_neg e_5_3, if_neg e_5_4, if_neg e_5_5, if_pos e_5_6] at hq
    rw [nI_clamp (by decide), hE1.1 0 (by decide), e29]
    exact hq v1 hm1
  refine J_tableOut (tgt := 95) dX7_rule_5 (by have q_0 := lv_neT (a := 0) e_5_0 rfl; have q_1 := lv_neT (a := 1) e_5_1 rfl; have q_2 := lv_neT (a := 2) e_5_2 rfl; have q_3 := lv_neT (a := 3) e_5_3 rfl; have q_4 := lv_neT (a := 4) e_5_4 rfl; have q_5 := lv_neT (a := 5) e_5_5 rfl; have q_6 := lv_neT (a := 6) e_5_6 rfl; omega) (by decide) ?_
  refine J_iconst (n := 96) dX7_rule_95 kI_m1 rfl ?_
  refine J_iret dX7_rule_96 rfl (kN_i _) ?_
  unfold sp_rule at hq
  rw [if_neg e_5_0, if_neg e_5_1, if_neg e_5_2, if_neg e_5_3, if_neg e_5_4, if_neg e_5_5, if_neg e_5_6] at hq
  exact hq v1 hm1

set_option maxHeartbeats 4000000 in
set_option maxRecDepth 100000 in
theorem c_N_glove {G : gx_G} {σ : gs_S} {Q : Option Value → gx_Hp → Prop} {S : pS} {v : gs_Ob} (d : Nat) (g w : Int32) (hS : SOk S) (hm : mR v S) (hq : ∀ v1, mR v1 S → Q (some (.int (sp_glove S g w))) (hp G (gs_set σ 7 0 v1))) : gx_K G yX7_glove mX7_glove (d + 12) 0 0 [.ref (gs_a G 7 0 0), .int g, .int w] (hp G (gs_set σ 7 0 v)) Q := by
  obtain ⟨⟨ha, hsn, hgl⟩, hkm, htp, hft, hsh⟩ := id hm
  have hO := hS.1.1
  have hB := hO.aB
  have h4 : S.1.1.2.2 6 ≤ 4 := hO.2.2.2.2.1
  have h6 : S.1.1.2.2 7 ≤ 6 := hO.2.2.2.2.2.1
  have hm11 : S.1.1.2.2 8 ≤ 11 := hO.2.2.2.2.2.2.1
  have hn9 : S.1.1.2.2 9 ≤ 9999 := hO.2.2.2.2.2.2.2
  have hd9 : S.1.1.2.2 10 ≤ 999 := hS.1.2.2.1
  have h160 : S.2.2.2.1.2 ≤ 160 := hS.2.2.1.1
  have e28 := ha.2.2.2.1
  have e29 := ha.2.2.2.2.1
  have e36 := ha.2.2.2.2.2.1
  have e37 := ha.2.2.2.2.2.2
  have g0 : gs_set σ 7 0 v 7 0 = v := gs_same _ _ _ _
  have hgl0 : (gs_set σ 7 0 v 7 0).2.1 3 = nI (S.1.1.2.2 6) := by rw [g0]; exact hgl
  have ha0 : aR ((gs_set σ 7 0 v 7 0).1 0) S.1.1 := by rw [g0]; exact ha
  refine gx_K.of' (lv := [(0, _), (1, _), (2, _)]) (by decide) rfl (by decide) (Nat.le_of_ble_eq_true rfl) rfl ?_
  refine J_aload_n (i := 0) (n := 1) dX7_glove_0 rfl rfl rfl ?_
  refine J_iload_n (i := 1) (n := 2) dX7_glove_1 rfl rfl rfl ?_
  refine J_callVr (n := 5) wS_X7_isGlove (c_M_isGlove (d + 10) g (S.1.1.2.2 6) hgl0 (by omega) ⟨rfl, rfl⟩) dX7_glove_2 wm_X7_210 ⟨wM_X7_isGlove, wV_X7_isGlove⟩ rfl (T_recv (by decide) (by first | assumption | decide)) rfl rfl (Nat.le_of_ble_eq_true rfl) rfl ?_
  refine J_if_ne (tgt := 10) (n := 8) dX7_glove_5 (by decide) rfl (fun c_5 => ?_) (fun c_5 => ?_)
  · rw [nb_t] at c_5
    unfold sp_glove at hq
    rw [if_pos (show isG S g = true from c_5)] at hq
    obtain ⟨j, hj, rfl⟩ := isG_of (S := S) c_5 hO
    rw [nat_nI (by omega)] at hq
    obtain ⟨k3, a11, w20⟩ := hO.2.1 j hj
    refine J_aload_n (i := 0) (n := 11) dX7_glove_10 rfl rfl rfl ?_
    refine J_callVx (n := 14) wS_X7_starts (c_M_starts (Q := fun r h => r = none ∧ ∃ v1, mN v1 S.1.1 ∧ mF v v1 ∧ h = hp G (gs_set σ 7 0 v1)) (d + 11) (fun v1 h1 _ h3 h4 => ⟨rfl, v1, ⟨ha.ext hB h1, by rw [h4]; exact hgl⟩, ⟨h3, h4, h1⟩, rfl⟩)) dX7_glove_11 wm_X7_201 ⟨wM_X7_starts, wV_X7_starts⟩ rfl (T_recv (by decide) (by first | assumption | decide)) rfl rfl (Nat.le_of_ble_eq_true rfl) rfl (fun r h1 hq1 => ?_)
    obtain ⟨rfl, v1, hN1, hE1, rfl⟩ := hq1
    have hN0 : mN (gs_set σ 7 0 v1 7 0) S.1.1 := by rw [gs_same]; exact hN1
    have hm1 : mR v1 S := hm.f hE1
    obtain ⟨n0, n1, n2, n3⟩ := hN1.1.2.1 j hj
    refine J_iload_n (i := 2) (n := 15) dX7_glove_14 rfl rfl rfl ?_
    by_cases e_15_0 : w = 0
    · rw [e_15_0]
      refine J_tableIn (off := 37) (tgt := 52) dX7_glove_15 (by decide) (by decide) (by decide) (by decide) ?_
      refine J_aload_n (i := 0) (n := 53) dX7_glove_52 rfl rfl rfl ?_
      refine J_iload_n (i := 1) (n := 54) dX7_glove_53 rfl rfl rfl ?_
      refine J_iload_n (i := 2) (n := 55) dX7_glove_54 rfl rfl rfl ?_
      refine J_callVr (n := 58) wS_X7_of (c_M_of (d + 11) (j := j) (k := 0) (by omega) (by omega) ⟨rfl, rfl⟩) dX7_glove_55 wm_X7_154 ⟨wM_X7_of, wV_X7_of⟩ rfl (T_recv (by decide) (by first | assumption | decide)) rfl rfl (Nat.le_of_ble_eq_true rfl) rfl ?_
      refine J_iret dX7_glove_58 rfl (kN_i _) ?_
      rw [gs_same]
      first
      | (rw [if_pos e_15_0, ← n0] at hq; exact hq v1 hm1)
      | (rw [if_neg e_15_0, if_neg e_15_1, if_pos e_15_2, ← n2] at hq; exact hq v1 hm1)
      | (rw [if_neg e_15_0, if_neg e_15_1, if_neg e_15_2, if_pos e_15_3, ← n3] at hq; exact hq v1 hm1)
    by_cases e_15_1 : w = 1
    · rw [e_15_1]
      refine J_tableIn (off := 44) (tgt := 59) dX7_glove_15 (by decide) (by decide) (by decide) (by decide) ?_
      refine J_aload_n (i := 0) (n := 60) dX7_glove_59 rfl rfl rfl ?_
      refine J_iload_n (i := 1) (n := 61) dX7_glove_60 rfl rfl rfl ?_
      refine J_callVr (n := 64) wS_X7_doorOf (c_M_doorOf (d + 9) hN0 hB hj (hS.1.2.1 j hj) ⟨rfl, rfl⟩) dX7_glove_61 wm_X7_160 ⟨wM_X7_doorOf, wV_X7_doorOf⟩ rfl (T_recv (by decide) (by first | assumption | decide)) rfl rfl (Nat.le_of_ble_eq_true rfl) rfl ?_
      refine J_iret dX7_glove_64 rfl (kN_i _) ?_
      rw [if_neg e_15_0, if_pos e_15_1] at hq
      exact hq v1 hm1
    by_cases e_15_2 : w = 2
    · rw [e_15_2]
      refine J_tableIn (off := 37) (tgt := 52) dX7_glove_15 (by decide) (by decide) (by decide) (by decide) ?_
      refine J_aload_n (i := 0) (n := 53) dX7_glove_52 rfl rfl rfl ?_
      refine J_iload_n (i := 1) (n := 54) dX7_glove_53 rfl rfl rfl ?_
      refine J_iload_n (i := 2) (n := 55) dX7_glove_54 rfl rfl rfl ?_
      refine J_callVr (n := 58) wS_X7_of (c_M_of (d + 11) (j := j) (k := 2) (by omega) (by omega) ⟨rfl, rfl⟩) dX7_glove_55 wm_X7_154 ⟨wM_X7_of, wV_X7_of⟩ rfl (T_recv (by decide) (by first | assumption | decide)) rfl rfl (Nat.le_of_ble_eq_true rfl) rfl ?_
      refine J_iret dX7_glove_58 rfl (kN_i _) ?_
      rw [gs_same]
      first
      | (rw [if_pos e_15_0, ← n0] at hq; exact hq v1 hm1)
      | (rw [if_neg e_15_0, if_neg e_15_1, if_pos e_15_2, ← n2] at hq; exact hq v1 hm1)
      | (rw [if_neg e_15_0, if_neg e_15_1, if_neg e_15_2, if_pos e_15_3, ← n3] at hq; exact hq v1 hm1)
    by_cases e_15_3 : w = 3
    · rw [e_15_3]
      refine J_tableIn (off := 37) (tgt := 52) dX7_glove_15 (by decide) (by decide) (by decide) (by decide) ?_
      refine J_aload_n (i := 0) (n := 53) dX7_glove_52 rfl rfl rfl ?_
      refine J_iload_n (i := 1) (n := 54) dX7_glove_53 rfl rfl rfl ?_
      refine J_iload_n (i := 2) (n := 55) dX7_glove_54 rfl rfl rfl ?_
      refine J_callVr (n := 58) wS_X7_of (c_M_of (d + 11) (j := j) (k := 3) (by omega) (by omega) ⟨rfl, rfl⟩) dX7_glove_55 wm_X7_154 ⟨wM_X7_of, wV_X7_of⟩ rfl (T_recv (by decide) (by first | assumption | decide)) rfl rfl (Nat.le_of_ble_eq_true rfl) rfl ?_
      refine J_iret dX7_glove_58 rfl (kN_i _) ?_
      rw [gs_same]
      first
      | (rw [if_pos e_15_0, ← n0] at hq; exact hq v1 hm1)
      | (rw [if_neg e_15_0, if_neg e_15_1, if_pos e_15_2, ← n2] at hq; exact hq v1 hm1)
      | (rw [if_neg e_15_0, if_neg e_15_1, if_neg e_15_2, if_pos e_15_3, ← n3] at hq; exact hq v1 hm1)
    by_cases e_15_4 : w = 4
    · rw [e_15_4]
      refine J_tableIn (off := 50) (tgt := 65) dX7_glove_15 (by decide) (by decide) (by decide) (by decide) ?_
      refine J_aload_n (i := 0) (n := 66) dX7_glove_65 rfl rfl rfl ?_
      refine J_iload_n (i := 1) (n := 67) dX7_glove_66 rfl rfl rfl ?_
      refine J_callVr (n := 70) wS_X7_doorOf (c_M_doorOf (d + 9) hN0 hB hj (hS.1.2.1 j hj) ⟨rfl, rfl⟩) dX7_glove_67 wm_X7_160 ⟨wM_X7_doorOf, wV_X7_doorOf⟩ rfl (T_recv (by decide) (by first | assumption | decide)) rfl rfl (Nat.le_of_ble_eq_true rfl) rfl ?_
      refine J_aload_n (i := 0) (n := 71) dX7_glove_70 rfl rfl rfl ?_
      refine T_get (k := 1) (n := 74) wk_X7 dX7_glove_71 wf_X7_13 (by decide) (by first | assumption | decide) rfl rfl ?_
      refine J_bipush (n := 76) dX7_glove_74 kB_28 rfl ?_
      refine T_iald (c := 7) (k := 1) (N := 57) (n := 77) dX7_glove_76 (by decide) (by first | assumption | decide) rfl (vp_in_nI (by decide) (by decide)) rfl ?_
      rw [nI_clamp (by decide), hN1.1.2.2.2.1]
      refine J_callSr (n := 80) wS_X7_apart (c_M_apart (d + 11) (by omega) (by omega) ⟨rfl, rfl⟩) dX7_glove_77 wm_X7_163 wT_X7_apart rfl rfl (Nat.le_of_ble_eq_true rfl) rfl ?_
      refine J_iret dX7_glove_80 rfl (kN_i _) ?_
      rw [if_neg e_15_0, if_neg e_15_1, if_neg e_15_2, if_neg e_15_3, if_pos e_15_4] at hq
      exact hq v1 hm1
    by_cases e_15_5 : w = 5
    · rw [e_15_5]
      refine J_tableIn (off := 66) (tgt := 81) dX7_glove_15 (by decide) (by decide) (by decide) (by decide) ?_
      refine J_aload_n (i := 0) (n := 82) dX7_glove_81 rfl rfl rfl ?_
      refine J_iload_n (i := 1) (n := 83) dX7_glove_82 rfl rfl rfl ?_
      refine J_callVr (n := 86) wS_X7_stepOf (c_M_stepOf (d + 8) hN0 hO hj (hS.1.2.1 j hj) ⟨rfl, rfl⟩) dX7_glove_83 wm_X7_176 ⟨wM_X7_stepOf, wV_X7_stepOf⟩ rfl (T_recv (by decide) (by first | assumption | decide)) rfl rfl (Nat.le_of_ble_eq_true rfl) rfl ?_
      refine J_iret dX7_glove_86 rfl (kN_i _) ?_
      rw [if_neg e_15_0, if_neg e_15_1, if_neg e_15_2, if_neg e_15_3, if_neg e_15_4, if_pos e_15_5] at hq
      exact hq v1 hm1
    refine J_tableOut (tgt := 87) dX7_glove_15 (by have q_0 := lv_neT (a := 0) e_15_0 rfl; have q_1 := lv_neT (a := 1) e_15_1 rfl; have q_2 := lv_neT (a := 2) e_15_2 rfl; have q_3 := lv_neT (a := 3) e_15_3 rfl; have q_4 := lv_neT (a := 4) e_15_4 rfl; have q_5 := lv_neT (a := 5) e_15_5 rfl; omega) (by decide) ?_
    refine J_iconst (n := 88) dX7_glove_87 kI_m1 rfl ?_
    refine J_iret dX7_glove_88 rfl (kN_i _) ?_
    rw [if_neg e_15_0, if_neg e_15_1, if_neg e_15_2, if_neg e_15_3, if_neg e_15_4, if_neg e_15_5] at hq
    exact hq v1 hm1
  · refine J_iconst (n := 9) dX7_glove_8 kI_m1 rfl ?_
    refine J_iret dX7_glove_9 rfl (kN_i _) ?_
    rw [nb_0] at c_5
    unfold sp_glove at hq
    rw [if_neg (by rw [show isG S g = false from c_5]; decide)] at hq
    exact hq v hm

set_option maxHeartbeats 4000000 in
set_option maxRecDepth 100000 in
theorem c_N_door {G : gx_G} {σ : gs_S} {Q : Option Value → gx_Hp → Prop} {S : pS} {v : gs_Ob} (d : Nat) (x w : Int32) (hS : SOk S) (hm : mR v S) (hq : ∀ v1, mR v1 S → Q (some (.int (sp_door S x w))) (hp G (gs_set σ 7 0 v1))) : gx_K G yX7_door mX7_door (d + 12) 0 0 [.ref (gs_a G 7 0 0), .int x, .int w] (hp G (gs_set σ 7 0 v)) Q := by
  obtain ⟨⟨ha, hsn, hgl⟩, hkm, htp, hft, hsh⟩ := id hm
  have hO := hS.1.1
  have hB := hO.aB
  have h4 : S.1.1.2.2 6 ≤ 4 := hO.2.2.2.2.1
  have h6 : S.1.1.2.2 7 ≤ 6 := hO.2.2.2.2.2.1
  have hm11 : S.1.1.2.2 8 ≤ 11 := hO.2.2.2.2.2.2.1
  have hn9 : S.1.1.2.2 9 ≤ 9999 := hO.2.2.2.2.2.2.2
  have hd9 : S.1.1.2.2 10 ≤ 999 := hS.1.2.2.1
  have h160 : S.2.2.2.1.2 ≤ 160 := hS.2.2.1.1
  have e28 := ha.2.2.2.1
  have e29 := ha.2.2.2.2.1
  have e36 := ha.2.2.2.2.2.1
  have e37 := ha.2.2.2.2.2.2
  have g0 : gs_set σ 7 0 v 7 0 = v := gs_same _ _ _ _
  have hgl0 : (gs_set σ 7 0 v 7 0).2.1 3 = nI (S.1.1.2.2 6) := by rw [g0]; exact hgl
  have ha0 : aR ((gs_set σ 7 0 v 7 0).1 0) S.1.1 := by rw [g0]; exact ha
  refine gx_K.of' (lv := [(0, _), (1, _), (2, _)]) (by decide) rfl (by decide) (Nat.le_of_ble_eq_true rfl) rfl ?_
  refine J_iload_n (i := 1) (n := 1) dX7_door_0 rfl rfl rfl ?_
  refine J_callSr (n := 4) wS_X7_isDoor (c_M_isDoor (d + 10) x ⟨rfl, rfl⟩) dX7_door_1 wm_X7_213 wT_X7_isDoor rfl rfl (Nat.le_of_ble_eq_true rfl) rfl ?_
  refine J_if_eq (tgt := 14) (n := 7) dX7_door_4 (by decide) rfl (fun c_4 => ?_) (fun c_4 => ?_)
  · refine J_iconst (n := 15) dX7_door_14 kI_m1 rfl ?_
    refine J_iret dX7_door_15 rfl (kN_i _) ?_
    unfold sp_door at hq
    first
    | (rw [nb_0] at c_4; rw [c_4, if_neg (by decide)] at hq; exact hq v hm)
    | (rw [nb_0] at c_11
       rw [nb_t] at c_4
       rw [if_pos c_4, if_neg (fun q => by rw [q] at c_11; exact absurd c_11 (by decide +kernel)), if_neg (fun q => by rw [q] at c_11; exact absurd c_11 (by decide +kernel))] at hq
       exact hq v hm)
  · refine J_iload_n (i := 2) (n := 8) dX7_door_7 rfl rfl rfl ?_
    refine J_callSr (n := 11) wS_X7_isPart (c_M_isPart (d + 10) w ⟨rfl, rfl⟩) dX7_door_8 wm_X7_216 wT_X7_isPart rfl rfl (Nat.le_of_ble_eq_true rfl) rfl ?_
    refine J_if_ne (tgt := 16) (n := 14) dX7_door_11 (by decide) rfl (fun c_11 => ?_) (fun c_11 => ?_)
    · rw [nb_t] at c_4 c_11
      unfold sp_door at hq
      rw [if_pos c_4] at hq
      obtain ⟨j, hj, rfl⟩ := ix_of c_4 (by omega)
      rw [nat_nI (by omega)] at hq
      have hw1 : ¬ w = 0 → w = 1 := fun q => by
        obtain ⟨z, hz, rfl⟩ := ix_of c_11 (by omega)
        rcases (show z = 0 ∨ z = 1 by omega) with rfl | rfl
        · exact absurd rfl q
        · rfl
      refine J_iconst (n := 17) dX7_door_16 kI_0 rfl ?_
      refine J_istore_n (i := 3) (n := 18) (lv' := [(0, _), (1, _), (2, _), (3, _)]) dX7_door_17 rfl (by decide) rfl rfl ?_
      refine J_aload_n (i := 0) (n := 19) dX7_door_18 rfl rfl rfl ?_
      refine J_callVx (n := 22) wS_X7_starts (c_M_starts (Q := fun r h => r = none ∧ ∃ v1, mN v1 S.1.1 ∧ mF v v1 ∧ h = hp G (gs_set σ 7 0 v1)) (d + 11) (fun v1 h1 _ h3 h4 => ⟨rfl, v1, ⟨ha.ext hB h1, by rw [h4]; exact hgl⟩, ⟨h3, h4, h1⟩, rfl⟩)) dX7_door_19 wm_X7_201 ⟨wM_X7_starts, wV_X7_starts⟩ rfl (T_recv (by decide) (by first | assumption | decide)) rfl rfl (Nat.le_of_ble_eq_true rfl) rfl (fun r h1 hq1 => ?_)
      obtain ⟨rfl, v1, hN1, hE1, rfl⟩ := hq1
      have hN0 : mN (gs_set σ 7 0 v1 7 0) S.1.1 := by rw [gs_same]; exact hN1
      have hm1 : mR v1 S := hm.f hE1
      refine J_iconst (n := 23) dX7_door_22 kI_0 rfl ?_
      refine J_istore (i := 4) (n := 25) (lv' := [(0, _), (1, _), (2, _), (3, _), (4, _)]) dX7_door_23 (by decide) rfl rfl ?_
      have loop : ∀ n g, S.1.1.2.2 6 - g < n → g ≤ S.1.1.2.2 6 → gx_J G mX7_door (d + 12) 0 0 Q 25 [(0, .ref (gs_a G 7 0 0)), (1, .int (nI j)), (2, .int w), (3, .int (nI (pw_bits (fun q => decide (q < g) && (fun q => decide (S.1.1.1 2 q = j)) q)))), (4, .int (nI g))] [] (hp G (gs_set σ 7 0 v1)) := by
        intro n
        induction n with
        | zero => intros; exact absurd (by assumption) (Nat.not_lt_zero _)
        | succ n ih =>
          intro g hn hg
          refine J_iload (i := 4) (n := 27) dX7_door_25 rfl rfl ?_
          refine J_aload_n (i := 0) (n := 28) dX7_door_27 rfl rfl rfl ?_
          refine T_get (k := 3) (n := 31) wk_X7 dX7_door_28 wf_X7_67 (by decide) (by first | assumption | decide) rfl rfl ?_
          rw [hN1.2]
          refine J_icmp_ge (tgt := 64) (n := 34) dX7_door_31 (by decide) rfl (fun c_31 => ?_) (fun c_31 => ?_)
          · rw [nI_leI (by omega) (by omega)] at c_31
            have eg : g = S.1.1.2.2 6 := by omega
            subst eg
            refine J_iload_n (i := 2) (n := 65) dX7_door_64 rfl rfl rfl ?_
            refine J_if_ne (tgt := 77) (n := 68) dX7_door_65 (by decide) rfl (fun c_65 => ?_) (fun c_65 => ?_)
            · refine J_iload_n (i := 3) (n := 78) dX7_door_77 rfl rfl rfl ?_
              refine J_iret dX7_door_78 rfl (kN_i _) ?_
              first
              | (rw [if_pos c_65] at hq; exact hq v1 hm1)
              | (rw [if_neg c_65, if_pos (hw1 c_65)] at hq; exact hq v1 hm1)
            · refine J_aload_n (i := 0) (n := 69) dX7_door_68 rfl rfl rfl ?_
              refine T_get (k := 0) (n := 72) wk_X7 dX7_door_69 wf_X7_7 (by decide) (by first | assumption | decide) rfl rfl ?_
              refine J_iload_n (i := 1) (n := 73) dX7_door_72 rfl rfl rfl ?_
              refine T_iald (c := 7) (k := 0) (N := 171) (n := 74) dX7_door_73 (by decide) (by first | assumption | decide) rfl (vp_in_nI (by omega) (by decide)) rfl ?_
              rw [nI_clamp (by omega), hE1.1 0 (by decide), ha.1 j (by omega)]
              refine J_goto (tgt := 78) dX7_door_74 (by decide) ?_
              refine J_iret dX7_door_78 rfl (kN_i _) ?_
              first
              | (rw [if_pos c_65] at hq; exact hq v1 hm1)
              | (rw [if_neg c_65, if_pos (hw1 c_65)] at hq; exact hq v1 hm1)
          · rw [nI_leI (by omega) (by omega)] at c_31
            have hgl1 : g < S.1.1.2.2 6 := by omega
            have a11 := (hO.2.1 g hgl1).2.1
            refine J_iload_n (i := 3) (n := 35) dX7_door_34 rfl rfl rfl ?_
            refine J_aload_n (i := 0) (n := 36) dX7_door_35 rfl rfl rfl ?_
            refine J_iload (i := 4) (n := 38) dX7_door_36 rfl rfl ?_
            refine J_callVr (n := 41) wS_X7_doorOf (c_M_doorOf (d + 9) hN0 hB hgl1 (hS.1.2.1 g hgl1) ⟨rfl, rfl⟩) dX7_door_38 wm_X7_160 ⟨wM_X7_doorOf, wV_X7_doorOf⟩ rfl (T_recv (by decide) (by first | assumption | decide)) rfl rfl (Nat.le_of_ble_eq_true rfl) rfl ?_
            refine J_iload_n (i := 1) (n := 42) dX7_door_41 rfl rfl rfl ?_
            refine J_icmp_ne (tgt := 49) (n := 45) dX7_door_42 (by decide) rfl (fun c_42 => ?_) (fun c_42 => ?_)
            · refine J_iconst (n := 50) dX7_door_49 kI_0 rfl ?_
              rw [nI_eq (by omega) (by omega)] at c_42
              first | rw [show nI 1 = nI ((fun q => decide (S.1.1.1 2 q = j)) g).toNat from by simp only [decide_eq_true c_42]; rfl] | rw [show nI 0 = nI ((fun q => decide (S.1.1.1 2 q = j)) g).toNat from by simp only [decide_eq_false c_42]; rfl]
              refine J_callSr (n := 53) wS_X7_flag (c_M_flag (d + 11) ((fun q => decide (S.1.1.1 2 q = j)) g) ⟨rfl, rfl⟩) dX7_door_50 wm_X7_194 wT_X7_flag rfl rfl (Nat.le_of_ble_eq_true rfl) rfl ?_
              refine J_iload (i := 4) (n := 55) dX7_door_53 rfl rfl ?_
              refine J_ishl (n := 56) dX7_door_55 rfl ?_
              refine J_ior (n := 57) dX7_door_56 rfl ?_
              rw [bq_s (fun q => decide (S.1.1.1 2 q = j)) (by omega)]
              refine J_istore_n (i := 3) (n := 58) (lv' := [(0, _), (1, _), (2, _), (3, _), (4, _)]) dX7_door_57 rfl (by decide) rfl rfl ?_
              refine J_inc (i := 4) (n := 61) (lv' := [(0, _), (1, _), (2, _), (3, _), (4, _)]) dX7_door_58 rfl (by decide) rfl rfl ?_
              refine J_goto (tgt := 25) dX7_door_61 (by decide) ?_
              exact ih (g + 1) (by omega) (by omega)
            · refine J_iconst (n := 46) dX7_door_45 kI_1 rfl ?_
              refine J_goto (tgt := 50) dX7_door_46 (by decide) ?_
              rw [nI_eq (by omega) (by omega)] at c_42
              first | rw [show nI 1 = nI ((fun q => decide (S.1.1.1 2 q = j)) g).toNat from by simp only [decide_eq_true c_42]; rfl] | rw [show nI 0 = nI ((fun q => decide (S.1.1.1 2 q = j)) g).toNat from by simp only [decide_eq_false c_42]; rfl]
              refine J_callSr (n := 53) wS_X7_flag (c_M_flag (d + 11) ((fun q => decide (S.1.1.1 2 q = j)) g) ⟨rfl, rfl⟩) dX7_door_50 wm_X7_194 wT_X7_flag rfl rfl (Nat.le_of_ble_eq_true rfl) rfl ?_
              refine J_iload (i := 4) (n := 55) dX7_door_53 rfl rfl ?_
              refine J_ishl (n := 56) dX7_door_55 rfl ?_
              refine J_ior (n := 57) dX7_door_56 rfl ?_
              rw [bq_s (fun q => decide (S.1.1.1 2 q = j)) (by omega)]
              refine J_istore_n (i := 3) (n := 58) (lv' := [(0, _), (1, _), (2, _), (3, _), (4, _)]) dX7_door_57 rfl (by decide) rfl rfl ?_
              refine J_inc (i := 4) (n := 61) (lv' := [(0, _), (1, _), (2, _), (3, _), (4, _)]) dX7_door_58 rfl (by decide) rfl rfl ?_
              refine J_goto (tgt := 25) dX7_door_61 (by decide) ?_
              exact ih (g + 1) (by omega) (by omega)
      have h0 := loop (S.1.1.2.2 6 + 1) 0 (by omega) (by omega)
      rw [← bl_0] at h0
      exact h0
    · refine J_iconst (n := 15) dX7_door_14 kI_m1 rfl ?_
      refine J_iret dX7_door_15 rfl (kN_i _) ?_
      unfold sp_door at hq
      first
      | (rw [nb_0] at c_4; rw [c_4, if_neg (by decide)] at hq; exact hq v hm)
      | (rw [nb_0] at c_11
         rw [nb_t] at c_4
         rw [if_pos c_4, if_neg (fun q => by rw [q] at c_11; exact absurd c_11 (by decide +kernel)), if_neg (fun q => by rw [q] at c_11; exact absurd c_11 (by decide +kernel))] at hq
         exact hq v hm)

set_option maxHeartbeats 4000000 in
set_option maxRecDepth 100000 in
theorem c_N_stop {G : gx_G} {σ : gs_S} {Q : Option Value → gx_Hp → Prop} {S : pS} {v : gs_Ob} (d : Nat) (x : Int32) (hS : SOk S) (hm : mR v S) (hq : ∀ v1, mR v1 S → Q (some (.int (sp_stop S x))) (hp G (gs_set σ 7 0 v1))) : gx_K G yX7_stop mX7_stop (d + 12) 0 0 [.ref (gs_a G 7 0 0), .int x] (hp G (gs_set σ 7 0 v)) Q := by
  obtain ⟨⟨ha, hsn, hgl⟩, hkm, htp, hft, hsh⟩ := id hm
  have hO := hS.1.1
  have hB := hO.aB
  have h4 : S.1.1.2.2 6 ≤ 4 := hO.2.2.2.2.1
  have h6 : S.1.1.2.2 7 ≤ 6 := hO.2.2.2.2.2.1
  have hm11 : S.1.1.2.2 8 ≤ 11 := hO.2.2.2.2.2.2.1
  have hn9 : S.1.1.2.2 9 ≤ 9999 := hO.2.2.2.2.2.2.2
  have hd9 : S.1.1.2.2 10 ≤ 999 := hS.1.2.2.1
  have h160 : S.2.2.2.1.2 ≤ 160 := hS.2.2.1.1
  have e28 := ha.2.2.2.1
  have e29 := ha.2.2.2.2.1
  have e36 := ha.2.2.2.2.2.1
  have e37 := ha.2.2.2.2.2.2
  have g0 : gs_set σ 7 0 v 7 0 = v := gs_same _ _ _ _
  have hgl0 : (gs_set σ 7 0 v 7 0).2.1 3 = nI (S.1.1.2.2 6) := by rw [g0]; exact hgl
  have ha0 : aR ((gs_set σ 7 0 v 7 0).1 0) S.1.1 := by rw [g0]; exact ha
  refine gx_K.of' (lv := [(0, _), (1, _)]) (by decide) rfl (by decide) (Nat.le_of_ble_eq_true rfl) rfl ?_
  refine J_aload_n (i := 0) (n := 1) dX7_stop_0 rfl rfl rfl ?_
  refine J_iload_n (i := 1) (n := 2) dX7_stop_1 rfl rfl rfl ?_
  refine J_callVr (n := 5) wS_X7_isCall (c_M_isCall (d + 10) x (S.1.1.2.2 7) ha0.2.2.2.2.1 (by omega) ⟨rfl, rfl⟩) dX7_stop_2 wm_X7_219 ⟨wM_X7_isCall, wV_X7_isCall⟩ rfl (T_recv (by decide) (by first | assumption | decide)) rfl rfl (Nat.le_of_ble_eq_true rfl) rfl ?_
  refine J_if_eq (tgt := 20) (n := 8) dX7_stop_5 (by decide) rfl (fun c_5 => ?_) (fun c_5 => ?_)
  · refine J_iconst (n := 21) dX7_stop_20 kI_m1 rfl ?_
    refine J_iret dX7_stop_21 rfl (kN_i _) ?_
    first
    | exact hq v hm
    | (rw [nb_0] at c_5
       unfold sp_stop at hq
       rw [if_neg (by rw [show isC S x = false from c_5]; decide)] at hq
       exact hq v hm)
  · rw [nb_t] at c_5
    unfold sp_stop at hq
    rw [if_pos (show isC S x = true from c_5)] at hq
    obtain ⟨j, hj, rfl⟩ := isC_of (S := S) c_5 hO
    rw [nat_nI (by omega)] at hq
    refine J_aload_n (i := 0) (n := 9) dX7_stop_8 rfl rfl rfl ?_
    refine T_get (k := 0) (n := 12) wk_X7 dX7_stop_9 wf_X7_7 (by decide) (by first | assumption | decide) rfl rfl ?_
    refine J_bipush (n := 14) dX7_stop_12 kB_30 rfl ?_
    refine J_iload_n (i := 1) (n := 15) dX7_stop_14 rfl rfl rfl ?_
    refine J_iadd (n := 16) dX7_stop_15 rfl ?_
    rw [nI_add]
    refine T_iald (c := 7) (k := 0) (N := 171) (n := 17) dX7_stop_16 (by decide) (by first | assumption | decide) rfl (vp_in_nI (by omega) (by decide)) rfl ?_
    rw [nI_clamp (by omega), ha.2.2.1 j hj]
    refine J_goto (tgt := 21) dX7_stop_17 (by decide) ?_
    refine J_iret dX7_stop_21 rfl (kN_i _) ?_
    first
    | exact hq v hm
    | (rw [nb_0] at c_5
       unfold sp_stop at hq
       rw [if_neg (by rw [show isC S x = false from c_5]; decide)] at hq
       exact hq v hm)

set_option maxHeartbeats 4000000 in
set_option maxRecDepth 100000 in
theorem c_N_fame {G : gx_G} {σ : gs_S} {Q : Option Value → gx_Hp → Prop} {S : pS} {v : gs_Ob} (d : Nat) (e x : Int32) (hS : SOk S) (hm : mR v S) (hq : ∀ v1, mR v1 (sp_fame S e x).2 → Q (some (.int (sp_fame S e x).1)) (hp G (gs_set σ 7 0 v1))) : gx_K G yX7_fame mX7_fame (d + 12) 0 0 [.ref (gs_a G 7 0 0), .int e, .int x] (hp G (gs_set σ 7 0 v)) Q := by
  obtain ⟨⟨ha, hsn, hgl⟩, hkm, htp, hft, hsh⟩ := id hm
  have hO := hS.1.1
  have hB := hO.aB
  have h4 : S.1.1.2.2 6 ≤ 4 := hO.2.2.2.2.1
  have h6 : S.1.1.2.2 7 ≤ 6 := hO.2.2.2.2.2.1
  have hm11 : S.1.1.2.2 8 ≤ 11 := hO.2.2.2.2.2.2.1
  have hn9 : S.1.1.2.2 9 ≤ 9999 := hO.2.2.2.2.2.2.2
  have hd9 : S.1.1.2.2 10 ≤ 999 := hS.1.2.2.1
  have h160 : S.2.2.2.1.2 ≤ 160 := hS.2.2.1.1
  have e28 := ha.2.2.2.1
  have e29 := ha.2.2.2.2.1
  have e36 := ha.2.2.2.2.2.1
  have e37 := ha.2.2.2.2.2.2
  have g0 : gs_set σ 7 0 v 7 0 = v := gs_same _ _ _ _
  have hgl0 : (gs_set σ 7 0 v 7 0).2.1 3 = nI (S.1.1.2.2 6) := by rw [g0]; exact hgl
  have ha0 : aR ((gs_set σ 7 0 v 7 0).1 0) S.1.1 := by rw [g0]; exact ha
  refine gx_K.of' (lv := [(0, _), (1, _), (2, _)]) (by decide) rfl (by decide) (Nat.le_of_ble_eq_true rfl) rfl ?_
  refine J_iload_n (i := 1) (n := 1) dX7_fame_0 rfl rfl rfl ?_
  refine J_callSr (n := 4) wS_X7_isDoor (c_M_isDoor (d + 10) e ⟨rfl, rfl⟩) dX7_fame_1 wm_X7_213 wT_X7_isDoor rfl rfl (Nat.le_of_ble_eq_true rfl) rfl ?_
  refine J_if_eq (tgt := 28) (n := 7) dX7_fame_4 (by decide) rfl (fun c_4 => ?_) (fun c_4 => ?_)
  · refine J_iconst (n := 29) dX7_fame_28 kI_m1 rfl ?_
    refine J_iret dX7_fame_29 rfl (kN_i _) ?_
    first
    | exact hq _ (hm.put hS (by omega) (ha.fame z (by omega)) rfl)
    | (unfold sp_fame at hq
       rw [if_neg (by first | (rw [nb_0] at c_4; rw [c_4, Bool.false_and]; decide) | (rw [nb_0] at c_16; rw [c_16, Bool.and_false]; decide))] at hq
       exact hq v hm)
  · refine J_iload_n (i := 2) (n := 8) dX7_fame_7 rfl rfl rfl ?_
    refine J_i2l (n := 9) dX7_fame_8 rfl ?_
    refine J_lconst (n := 10) dX7_fame_9 kL_0 rfl ?_
    refine J_ldc2 (n := 13) dX7_fame_10 wd_X7_232 rfl ?_
    refine J_callSr (n := 16) wS_X7_in (c_M_in (d + 11) x 9 (by decide) ⟨rfl, rfl⟩) dX7_fame_13 wm_X7_72 wT_X7_in rfl rfl (Nat.le_of_ble_eq_true rfl) rfl ?_
    refine J_if_eq (tgt := 28) (n := 19) dX7_fame_16 (by decide) rfl (fun c_16 => ?_) (fun c_16 => ?_)
    · refine J_iconst (n := 29) dX7_fame_28 kI_m1 rfl ?_
      refine J_iret dX7_fame_29 rfl (kN_i _) ?_
      first
      | exact hq _ (hm.put hS (by omega) (ha.fame z (by omega)) rfl)
      | (unfold sp_fame at hq
         rw [if_neg (by first | (rw [nb_0] at c_4; rw [c_4, Bool.false_and]; decide) | (rw [nb_0] at c_16; rw [c_16, Bool.and_false]; decide))] at hq
         exact hq v hm)
    · rw [nb_t] at c_4 c_16
      unfold sp_fame at hq
      rw [if_pos (by rw [c_4, c_16]; rfl)] at hq
      obtain ⟨j, hj, rfl⟩ := ix_of c_4 (by decide)
      obtain ⟨z, hz, rfl⟩ := ix_of c_16 (by decide)
      rw [nat_nI (by omega), nat_nI (by omega)] at hq
      refine J_aload_n (i := 0) (n := 20) dX7_fame_19 rfl rfl rfl ?_
      refine J_iload_n (i := 1) (n := 21) dX7_fame_20 rfl rfl rfl ?_
      refine J_iload_n (i := 2) (n := 22) dX7_fame_21 rfl rfl rfl ?_
      refine J_callVr (n := 25) wS_X7_becomes (c_M_becomes (d + 11) _ (by omega) ⟨rfl, rfl⟩) dX7_fame_22 wm_X7_229 ⟨wM_X7_becomes, wV_X7_becomes⟩ rfl (T_recv (by decide) (by first | assumption | decide)) rfl rfl (Nat.le_of_ble_eq_true rfl) rfl ?_
      rw [ha.1 j (by omega)]
      refine J_goto (tgt := 29) dX7_fame_25 (by decide) ?_
      refine J_iret dX7_fame_29 rfl (kN_i _) ?_
      first
      | exact hq _ (hm.put hS (by omega) (ha.fame z (by omega)) rfl)
      | (unfold sp_fame at hq
         rw [if_neg (by first | (rw [nb_0] at c_4; rw [c_4, Bool.false_and]; decide) | (rw [nb_0] at c_16; rw [c_16, Bool.and_false]; decide))] at hq
         exact hq v hm)

set_option maxHeartbeats 4000000 in
set_option maxRecDepth 100000 in
theorem c_N_leave {G : gx_G} {σ : gs_S} {Q : Option Value → gx_Hp → Prop} {S : pS} {v : gs_Ob} (d : Nat) (g : Int32) (hS : SOk S) (hm : mR v S) (hq : ∀ v1, mR v1 (sp_leave S g).2 → Q (some (.int (sp_leave S g).1)) (hp G (gs_set σ 7 0 v1))) : gx_K G yX7_leave mX7_leave (d + 12) 0 0 [.ref (gs_a G 7 0 0), .int g] (hp G (gs_set σ 7 0 v)) Q := by
  obtain ⟨⟨ha, hsn, hgl⟩, hkm, htp, hft, hsh⟩ := id hm
  have hO := hS.1.1
  have hB := hO.aB
  have h4 : S.1.1.2.2 6 ≤ 4 := hO.2.2.2.2.1
  have h6 : S.1.1.2.2 7 ≤ 6 := hO.2.2.2.2.2.1
  have hm11 : S.1.1.2.2 8 ≤ 11 := hO.2.2.2.2.2.2.1
  have hn9 : S.1.1.2.2 9 ≤ 9999 := hO.2.2.2.2.2.2.2
  have hd9 : S.1.1.2.2 10 ≤ 999 := hS.1.2.2.1
  have h160 : S.2.2.2.1.2 ≤ 160 := hS.2.2.1.1
  have e28 := ha.2.2.2.1
  have e29 := ha.2.2.2.2.1
  have e36 := ha.2.2.2.2.2.1
  have e37 := ha.2.2.2.2.2.2
  have g0 : gs_set σ 7 0 v 7 0 = v := gs_same _ _ _ _
  have hgl0 : (gs_set σ 7 0 v 7 0).2.1 3 = nI (S.1.1.2.2 6) := by rw [g0]; exact hgl
  have ha0 : aR ((gs_set σ 7 0 v 7 0).1 0) S.1.1 := by rw [g0]; exact ha
  refine gx_K.of' (lv := [(0, _), (1, _)]) (by decide) rfl (by decide) (Nat.le_of_ble_eq_true rfl) rfl ?_
  refine J_aload_n (i := 0) (n := 1) dX7_leave_0 rfl rfl rfl ?_
  refine J_iload_n (i := 1) (n := 2) dX7_leave_1 rfl rfl rfl ?_
  refine J_callVr (n := 5) wS_X7_isGlove (c_M_isGlove (d + 10) g (S.1.1.2.2 6) hgl0 (by omega) ⟨rfl, rfl⟩) dX7_leave_2 wm_X7_210 ⟨wM_X7_isGlove, wV_X7_isGlove⟩ rfl (T_recv (by decide) (by first | assumption | decide)) rfl rfl (Nat.le_of_ble_eq_true rfl) rfl ?_
  refine J_if_ne (tgt := 10) (n := 8) dX7_leave_5 (by decide) rfl (fun c_5 => ?_) (fun c_5 => ?_)
  · rw [nb_t] at c_5
    unfold sp_leave at hq
    rw [if_pos (show isG S g = true from c_5)] at hq
    obtain ⟨j, hj, rfl⟩ := isG_of (S := S) c_5 hO
    rw [nat_nI (by omega)] at hq
    obtain ⟨k3, a11, w20⟩ := hO.2.1 j hj
    refine J_aload_n (i := 0) (n := 11) dX7_leave_10 rfl rfl rfl ?_
    refine J_iload_n (i := 1) (n := 12) dX7_leave_11 rfl rfl rfl ?_
    refine J_callVr (n := 15) wS_X7_wasPaired (c_M_wasPaired (d + 11) ha0 hB hj ⟨rfl, rfl⟩) dX7_leave_12 wm_X7_226 ⟨wM_X7_wasPaired, wV_X7_wasPaired⟩ rfl (T_recv (by decide) (by first | assumption | decide)) rfl rfl (Nat.le_of_ble_eq_true rfl) rfl ?_
    refine J_if_ne (tgt := 21) (n := 18) dX7_leave_15 (by decide) rfl (fun c_15 => ?_) (fun c_15 => ?_)
    · rw [nb_t] at c_15
      rw [if_pos c_15] at hq
      have hat := hS.1.2.1 j hj c_15
      refine J_aload_n (i := 0) (n := 22) dX7_leave_21 rfl rfl rfl ?_
      refine T_get (k := 0) (n := 25) wk_X7 dX7_leave_22 wf_X7_7 (by decide) (by first | assumption | decide) rfl rfl ?_
      refine J_bipush (n := 27) dX7_leave_25 kB_12 rfl ?_
      refine J_iconst (n := 28) dX7_leave_27 kI_4 rfl ?_
      refine J_iload_n (i := 1) (n := 29) dX7_leave_28 rfl rfl rfl ?_
      refine J_imul (n := 30) dX7_leave_29 rfl ?_
      refine J_iadd (n := 31) dX7_leave_30 rfl ?_
      refine J_iconst (n := 32) dX7_leave_31 kI_3 rfl ?_
      refine J_iadd (n := 33) dX7_leave_32 rfl ?_
      rw [pk_mul, nI_add, nI_add]
      refine J_iconst (n := 34) dX7_leave_33 kI_0 rfl ?_
      skip
      refine T_iast (c := 7) (k := 0) (N := 171) (n := 35) dX7_leave_34 (by decide) (by first | assumption | decide) (fun _ => rfl) (vp_in_nI (by omega) (by decide)) rfl ?_
      rw [nI_clamp (by omega)]
      have ha1 : aR (upd (upd (v.1 0) (12 + 4 * j + 1) (nI (S.1.1.2.2 8))) (12 + 4 * j + 3) (nI false.toNat)) (pw_b S.1.1 j false) := ((ha.stale (S.1.1.2.2 8) c_15).put hB (g := j) (k := 1) (S.1.1.2.2 8) hj (Or.inl rfl) |>.pair hB false hj (fun _ => by rw [pk_us]; simp [pw_a]) |> fun z => by
          have e : pw_b (pw_a (pw_a S.1.1 2 j (S.1.1.2.2 8)) (1 + 1) j (S.1.1.2.2 8)) j false = pw_b S.1.1 j false := by
            refine Prod.ext (funext fun k => funext fun q => ?_) rfl
            show (if k = 2 ∧ q = j then S.1.1.2.2 8 else if k = 2 ∧ q = j then S.1.1.2.2 8 else S.1.1.1 k q) = S.1.1.1 k q
            by_cases h : k = 2 ∧ q = j
            · rw [if_pos h, h.1, h.2, hat]
            · rw [if_neg h, if_neg h]
          rw [e] at z
          exact z)
      have hcm : upd (upd (v.1 0) (12 + 4 * j + 3) (nI 0)) (12 + 4 * j + 1) (nI (S.1.1.2.2 8)) = upd (upd (v.1 0) (12 + 4 * j + 1) (nI (S.1.1.2.2 8))) (12 + 4 * j + 3) (nI false.toNat) := by
        funext q
        unfold upd
        by_cases h1 : q = 12 + 4 * j + 1
        · subst h1; simp
        · simp [h1]
      have e0 : (gs_w v 0 (upd (v.1 0) (12 + 4 * j + 3) (nI 0))).1 0 = upd (v.1 0) (12 + 4 * j + 3) (nI 0) := by simp [gs_w, va_up]
      have e1 : (gs_w v 0 (upd (v.1 0) (12 + 4 * j + 3) (nI 0))).1 0 28 = nI (S.1.1.2.2 8) := by rw [e0, pk_un (by omega)]; exact e28
      refine J_aload_n (i := 0) (n := 36) dX7_leave_35 rfl rfl rfl ?_
      refine T_get (k := 0) (n := 39) wk_X7 dX7_leave_36 wf_X7_7 (by decide) (by first | assumption | decide) rfl rfl ?_
      refine J_bipush (n := 41) dX7_leave_39 kB_12 rfl ?_
      refine J_iconst (n := 42) dX7_leave_41 kI_4 rfl ?_
      refine J_iload_n (i := 1) (n := 43) dX7_leave_42 rfl rfl rfl ?_
      refine J_imul (n := 44) dX7_leave_43 rfl ?_
      refine J_iadd (n := 45) dX7_leave_44 rfl ?_
      refine J_iconst (n := 46) dX7_leave_45 kI_1 rfl ?_
      refine J_iadd (n := 47) dX7_leave_46 rfl ?_
      rw [pk_mul, nI_add, nI_add]
      refine J_aload_n (i := 0) (n := 48) dX7_leave_47 rfl rfl rfl ?_
      refine T_get (k := 0) (n := 51) wk_X7 dX7_leave_48 wf_X7_7 (by decide) (by first | assumption | decide) rfl rfl ?_
      refine J_bipush (n := 53) dX7_leave_51 kB_28 rfl ?_
      refine T_iald (c := 7) (k := 0) (N := 171) (n := 54) dX7_leave_53 (by decide) (by first | assumption | decide) rfl (vp_in_nI (by decide) (by decide)) rfl ?_
      rw [nI_clamp (by decide), e1]
      refine T_iast (c := 7) (k := 0) (N := 171) (n := 55) dX7_leave_54 (by decide) (by first | assumption | decide) (fun _ => rfl) (vp_in_nI (by omega) (by decide)) rfl ?_
      rw [nI_clamp (by omega), e0, hcm]
      have e2 : gs_w (gs_w v 0 (upd (v.1 0) (12 + 4 * j + 3) (nI 0))) 0 (upd (upd (v.1 0) (12 + 4 * j + 1) (nI (S.1.1.2.2 8))) (12 + 4 * j + 3) (nI false.toNat)) = gs_w v 0 (upd (upd (v.1 0) (12 + 4 * j + 1) (nI (S.1.1.2.2 8))) (12 + 4 * j + 3) (nI false.toNat)) := by
        unfold gs_w
        rw [bx_uu]
      rw [e2]
      refine J_aload_n (i := 0) (n := 56) dX7_leave_55 rfl rfl rfl ?_
      refine T_get (k := 0) (n := 59) wk_X7 dX7_leave_56 wf_X7_7 (by decide) (by first | assumption | decide) rfl rfl ?_
      refine J_bipush (n := 61) dX7_leave_59 kB_28 rfl ?_
      refine T_iald (c := 7) (k := 0) (N := 171) (n := 62) dX7_leave_61 (by decide) (by first | assumption | decide) rfl (vp_in_nI (by decide) (by decide)) rfl ?_
      rw [nI_clamp (by decide), show (gs_w v 0 (upd (upd (v.1 0) (12 + 4 * j + 1) (nI (S.1.1.2.2 8))) (12 + 4 * j + 3) (nI false.toNat))).1 0 28 = nI (S.1.1.2.2 8) from by simp only [gs_w, va_up, if_true]; rw [pk_un (by omega), pk_un (by omega)]; exact e28]
      refine J_iret dX7_leave_62 rfl (kN_i _) ?_
      exact hq _ (hm.st (i := (pw_b S.1.1 j false, S.1.2)) ha1 (hsn.lo hS.1.2.2.2.1 (by omega) |>.lo hS.1.2.2.2.1 (by omega)) (fun q hq1 => by rw [pk_un (by omega), pk_un (by omega)]) rfl)
    · refine J_bipush (n := 20) dX7_leave_18 kB_m2 rfl ?_
      refine J_iret dX7_leave_20 rfl (kN_i _) ?_
      rw [nb_0] at c_15
      rw [if_neg (by rw [c_15]; decide)] at hq
      exact hq v hm
  · refine J_iconst (n := 9) dX7_leave_8 kI_m1 rfl ?_
    refine J_iret dX7_leave_9 rfl (kN_i _) ?_
    rw [nb_0] at c_5
    unfold sp_leave at hq
    rw [if_neg (by rw [show isG S g = false from c_5]; decide)] at hq
    exact hq v hm

set_option maxHeartbeats 4000000 in
set_option maxRecDepth 100000 in
theorem c_N_go {G : gx_G} {σ : gs_S} {Q : Option Value → gx_Hp → Prop} {S : pS} {v : gs_Ob} (d : Nat) (e : Int32) (hS : SOk S) (hm : mR v S) (hq : ∀ v1, mR v1 (sp_go S e).2 → Q (some (.int (sp_go S e).1)) (hp G (gs_set σ 7 0 v1))) : gx_K G yX7_go mX7_go (d + 12) 0 0 [.ref (gs_a G 7 0 0), .int e] (hp G (gs_set σ 7 0 v)) Q := by
  obtain ⟨⟨ha, hsn, hgl⟩, hkm, htp, hft, hsh⟩ := id hm
  have hO := hS.1.1
  have hB := hO.aB
  have h4 : S.1.1.2.2 6 ≤ 4 := hO.2.2.2.2.1
  have h6 : S.1.1.2.2 7 ≤ 6 := hO.2.2.2.2.2.1
  have hm11 : S.1.1.2.2 8 ≤ 11 := hO.2.2.2.2.2.2.1
  have hn9 : S.1.1.2.2 9 ≤ 9999 := hO.2.2.2.2.2.2.2
  have hd9 : S.1.1.2.2 10 ≤ 999 := hS.1.2.2.1
  have h160 : S.2.2.2.1.2 ≤ 160 := hS.2.2.1.1
  have e28 := ha.2.2.2.1
  have e29 := ha.2.2.2.2.1
  have e36 := ha.2.2.2.2.2.1
  have e37 := ha.2.2.2.2.2.2
  have g0 : gs_set σ 7 0 v 7 0 = v := gs_same _ _ _ _
  have hgl0 : (gs_set σ 7 0 v 7 0).2.1 3 = nI (S.1.1.2.2 6) := by rw [g0]; exact hgl
  have ha0 : aR ((gs_set σ 7 0 v 7 0).1 0) S.1.1 := by rw [g0]; exact ha
  refine gx_K.of' (lv := [(0, _), (1, _)]) (by decide) rfl (by decide) (Nat.le_of_ble_eq_true rfl) rfl ?_
  refine J_iload_n (i := 1) (n := 1) dX7_go_0 rfl rfl rfl ?_
  refine J_callSr (n := 4) wS_X7_isDoor (c_M_isDoor (d + 10) e ⟨rfl, rfl⟩) dX7_go_1 wm_X7_213 wT_X7_isDoor rfl rfl (Nat.le_of_ble_eq_true rfl) rfl ?_
  refine J_if_eq (tgt := 17) (n := 7) dX7_go_4 (by decide) rfl (fun c_4 => ?_) (fun c_4 => ?_)
  · refine J_iconst (n := 18) dX7_go_17 kI_m1 rfl ?_
    refine J_iret dX7_go_18 rfl (kN_i _) ?_
    first
    | exact hq _ (hm.put hS (by decide) (pw_mv_aR (ha.num hB j (Or.inl ⟨rfl, rfl⟩))) rfl)
    | (rw [nb_0] at c_4
       unfold sp_go at hq
       rw [c_4, if_neg (by decide)] at hq
       exact hq v hm)
  · rw [nb_t] at c_4
    unfold sp_go at hq
    rw [if_pos c_4] at hq
    obtain ⟨j, hj, rfl⟩ := ix_of c_4 (by omega)
    rw [nat_nI (by omega)] at hq
    refine J_aload_n (i := 0) (n := 8) dX7_go_7 rfl rfl rfl ?_
    refine J_bipush (n := 10) dX7_go_8 kB_28 rfl ?_
    refine J_iload_n (i := 1) (n := 11) dX7_go_10 rfl rfl rfl ?_
    refine J_callVr (n := 14) wS_X7_becomes (c_M_becomes (d + 11) _ (by decide) ⟨rfl, rfl⟩) dX7_go_11 wm_X7_229 ⟨wM_X7_becomes, wV_X7_becomes⟩ rfl (T_recv (by decide) (by first | assumption | decide)) rfl rfl (Nat.le_of_ble_eq_true rfl) rfl ?_
    rw [e28]
    refine J_goto (tgt := 18) dX7_go_14 (by decide) ?_
    refine J_iret dX7_go_18 rfl (kN_i _) ?_
    first
    | exact hq _ (hm.put hS (by decide) (pw_mv_aR (ha.num hB j (Or.inl ⟨rfl, rfl⟩))) rfl)
    | (rw [nb_0] at c_4
       unfold sp_go at hq
       rw [c_4, if_neg (by decide)] at hq
       exact hq v hm)

