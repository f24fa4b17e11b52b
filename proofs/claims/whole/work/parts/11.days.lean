set_option maxHeartbeats 4000000 in
set_option maxRecDepth 100000 in
theorem c_W_passDay {G : gx_G} {σ : gs_S} {Q : Option Value → gx_Hp → Prop} {p : pw} {w : gs_Ob} (d : Nat) {i e : Nat} (hi : i < gs_cnt 5) (hw : wR w p) (hO : pOk p) (he : e ≤ 11) (hq : ∀ w1, wR w1 (pw_day p e) → Q none (hp G (gs_set σ 5 i w1))) : gx_K G yX5_passDay mX5_passDay (d + 4) 0 0 [.ref (gs_a G 5 i 0), .int (nI e)] (hp G (gs_set σ 5 i w)) Q := by
  have h4 : p.2.2 6 ≤ 4 := hO.2.2.2.2.1
  have loop : ∀ n g w1, p.2.2 6 - g < n → g ≤ p.2.2 6 → wR w1 (pw_gloves (pw_f p 8 e) g) → gx_J G mX5_passDay (d + 4) 0 0 Q 7 [(0, .ref (gs_a G 5 i 0)), (1, .int (nI e)), (2, .int (nI g))] [] (hp G (gs_set σ 5 i w1)) := by
    intro n
    induction n with
    | zero => intros; exact absurd (by assumption) (Nat.not_lt_zero _)
    | succ n ih =>
      intro g w1 hn hg hw1
      have e6 : w1.2.1 6 = nI (p.2.2 6) := by rw [hw1.2.2.2.2 6 (by decide) (by decide), pw_gloves_f _ _ _ (by decide)]; rfl
      have e10 : w1.2.1 10 = nI (p.2.2 10) := by rw [hw1.2.2.2.2 10 (by decide) (by decide), pw_gloves_f _ _ _ (by decide)]; rfl
      refine J_iload_n (i := 2) (n := 8) dX5_passDay_7 rfl rfl rfl ?_
      refine J_aload_n (i := 0) (n := 9) dX5_passDay_8 rfl rfl rfl ?_
      refine T_get (k := 6) (n := 12) wk_X5 dX5_passDay_9 wf_X5_37 (by decide) (by first | assumption | decide) rfl rfl ?_
      rw [e6]
      refine J_icmp_ge (tgt := 26) (n := 15) dX5_passDay_12 (by decide) rfl (fun c_12 => ?_) (fun c_12 => ?_)
      · refine J_aload_n (i := 0) (n := 27) dX5_passDay_26 rfl rfl rfl ?_
        refine J_dup (n := 28) dX5_passDay_27 rfl rfl ?_
        refine T_get (k := 10) (n := 31) wk_X5 dX5_passDay_28 wf_X5_49 (by decide) (by first | assumption | decide) rfl rfl ?_
        refine J_iconst (n := 32) dX5_passDay_31 kI_1 rfl ?_
        refine J_iadd (n := 33) dX5_passDay_32 rfl ?_
        rw [e10, nI_add]
        refine T_putI (k := 10) (n := 36) wk_X5 dX5_passDay_33 wf_X5_49 (by decide) (by first | assumption | decide) (kN_i _) rfl (Nat.le_of_ble_eq_true rfl) rfl rfl ?_
        refine J_vret dX5_passDay_36 rfl ?_
        refine hq _ ?_
        rw [nI_leI (by omega) (by omega)] at c_12
        have eg : g = p.2.2 6 := by omega
        subst eg
        exact hw1.fld 10 _ (by decide)
      · refine J_aload_n (i := 0) (n := 16) dX5_passDay_15 rfl rfl rfl ?_
        refine J_iload_n (i := 2) (n := 17) dX5_passDay_16 rfl rfl rfl ?_
        refine J_callVx (n := 20) wS_X5_passDayOfGlove (c_W_passDayOfGlove (Q := fun r h => r = none ∧ ∃ w2, wR w2 (pw_glove (pw_gloves (pw_f p 8 e) g) g) ∧ h = hp G (gs_set σ 5 i w2)) d hi hw1 (pw_gloves_ok (pw_f8_ok hO he) g hg) (by rw [pw_gloves_f _ _ _ (by decide)]; show g < p.2.2 6; rw [nI_leI (by omega) (by omega)] at c_12; omega) (fun w2 h2 => ⟨rfl, w2, h2, rfl⟩)) dX5_passDay_17 wm_X5_79 ⟨wM_X5_passDayOfGlove, wV_X5_passDayOfGlove⟩ rfl (T_recv (by decide) (by first | assumption | decide)) rfl rfl (Nat.le_of_ble_eq_true rfl) rfl (fun r h1 hq1 => ?_)
        obtain ⟨rfl, w2, hw2, rfl⟩ := hq1
        rw [nI_leI (by omega) (by omega)] at c_12
        refine J_inc (i := 2) (n := 23) (lv' := [(0, _), (1, _), (2, _)]) dX5_passDay_20 rfl (by decide) rfl rfl ?_
        refine J_goto (tgt := 7) dX5_passDay_23 (by decide) ?_
        exact ih (g + 1) w2 (by omega) (by omega) hw2
  refine gx_K.of' (lv := [(0, _), (1, _)]) (by decide) rfl (by decide) (Nat.le_of_ble_eq_true rfl) rfl ?_
  refine J_aload_n (i := 0) (n := 1) dX5_passDay_0 rfl rfl rfl ?_
  refine J_iload_n (i := 1) (n := 2) dX5_passDay_1 rfl rfl rfl ?_
  refine T_putI (k := 8) (n := 5) wk_X5 dX5_passDay_2 wf_X5_43 (by decide) (by first | assumption | decide) (kN_i _) rfl (Nat.le_of_ble_eq_true rfl) rfl rfl ?_
  refine J_iconst (n := 6) dX5_passDay_5 kI_0 rfl ?_
  refine J_istore_n (i := 2) (n := 7) (lv' := [(0, _), (1, _), (2, _)]) dX5_passDay_6 rfl (by decide) rfl rfl ?_
  exact loop (p.2.2 6 + 1) 0 _ (by omega) (by omega) (hw.fld 8 e (by decide))

set_option maxHeartbeats 4000000 in
set_option maxRecDepth 100000 in
theorem c_W_passDays {G : gx_G} {σ : gs_S} {Q : Option Value → gx_Hp → Prop} {p : pw} {w : gs_Ob} (d : Nat) {i n : Nat} (hi : i < gs_cnt 5) (hw : wR w p) (hO : pOk p) (hn : p.2.2 10 + n < 2 ^ 30) (hq : ∀ w1, wR w1 (pw_days p n) → Q none (hp G (gs_set σ 5 i w1))) : gx_K G yX5_passDays mX5_passDays (d + 5) 0 0 [.ref (gs_a G 5 i 0), .int (nI n)] (hp G (gs_set σ 5 i w)) Q := by
  have loop : ∀ k m p1 w1, n - m < k → m ≤ n → wR w1 p1 → pOk p1 → p1.2.2 10 + (n - m) < 2 ^ 30 → pw_days p1 (n - m) = pw_days p n → gx_J G mX5_passDays (d + 5) 0 0 Q 2 [(0, .ref (gs_a G 5 i 0)), (1, .int (nI n)), (2, .int (nI m))] [] (hp G (gs_set σ 5 i w1)) := by
    intro k
    induction k with
    | zero => intros; exact absurd (by assumption) (Nat.not_lt_zero _)
    | succ k ih =>
      intro m p1 w1 hk hm hw1 hO1 hd1 hp1
      have e7 := hw1.2.2.2.2 7 (by decide) (by decide)
      have e8 := hw1.2.2.2.2 8 (by decide) (by decide)
      have e10 := hw1.2.2.2.2 10 (by decide) (by decide)
      have h6 : p1.2.2 7 ≤ 6 := hO1.2.2.2.2.2.1
      refine J_iload_n (i := 2) (n := 3) dX5_passDays_2 rfl rfl rfl ?_
      refine J_iload_n (i := 1) (n := 4) dX5_passDays_3 rfl rfl rfl ?_
      refine J_icmp_ge (tgt := 45) (n := 7) dX5_passDays_4 (by decide) rfl (fun c_4 => ?_) (fun c_4 => ?_)
      · refine J_vret dX5_passDays_45 rfl ?_
        refine hq _ ?_
        rw [nI_leI (by omega) (by omega)] at c_4
        have em : m = n := by omega
        subst em
        rw [← hp1, Nat.sub_self]
        exact hw1
      · refine J_aload_n (i := 0) (n := 8) dX5_passDays_7 rfl rfl rfl ?_
        refine J_aload_n (i := 0) (n := 9) dX5_passDays_8 rfl rfl rfl ?_
        refine T_get (k := 7) (n := 12) wk_X5 dX5_passDays_9 wf_X5_40 (by decide) (by first | assumption | decide) rfl rfl ?_
        rw [e7]
        refine J_if_le (tgt := 32) (n := 15) dX5_passDays_12 (by decide) rfl (fun c_12 => ?_) (fun c_12 => ?_)
        · have c0 : ¬ 0 < p1.2.2 7 := fun q => nI_nle q (by omega) c_12
          have hnx : pw_next p1 = p1.2.2 8 := if_neg c0
          refine J_aload_n (i := 0) (n := 33) dX5_passDays_32 rfl rfl rfl ?_
          refine T_get (k := 8) (n := 36) wk_X5 dX5_passDays_33 wf_X5_43 (by decide) (by first | assumption | decide) rfl rfl ?_
          try rw [e8, ← hnx]
          rw [nI_leI (by omega) (by omega)] at c_4
          refine J_callVx (n := 39) wS_X5_passDay (c_W_passDay (Q := fun r h => r = none ∧ ∃ w2, wR w2 (pw_day p1 (pw_next p1)) ∧ h = hp G (gs_set σ 5 i w2)) d hi hw1 hO1 (pw_next_le hO1) (fun w2 h2 => ⟨rfl, w2, h2, rfl⟩)) dX5_passDays_36 wm_X5_75 ⟨wM_X5_passDay, wV_X5_passDay⟩ rfl (T_recv (by decide) (by first | assumption | decide)) rfl rfl (Nat.le_of_ble_eq_true rfl) rfl (fun r h1 hq1 => ?_)
          obtain ⟨rfl, w2, hw2, rfl⟩ := hq1
          refine J_inc (i := 2) (n := 42) (lv' := [(0, _), (1, _), (2, _)]) dX5_passDays_39 rfl (by decide) rfl rfl ?_
          refine J_goto (tgt := 2) dX5_passDays_42 (by decide) ?_
          refine ih (m + 1) _ w2 (by omega) (by omega) hw2 (pw_day_ok hO1 (pw_next_le hO1)) (by rw [pw_day_day]; omega) ?_
          rw [← hp1, show n - m = (n - (m + 1)) + 1 by omega]
          rfl
        · have c0 : 0 < p1.2.2 7 := by
            rcases Nat.eq_zero_or_pos (p1.2.2 7) with q | q
            · exact absurd (by rw [q]; decide) c_12
            · exact q
          have hmod := Nat.mod_lt (p1.2.2 10) c0
          have er := hw1.2.2.1 _ hmod
          have hnx : pw_next p1 = p1.1 4 (p1.2.2 10 % p1.2.2 7) := if_pos c0
          refine J_aload_n (i := 0) (n := 16) dX5_passDays_15 rfl rfl rfl ?_
          refine T_get (k := 4) (n := 19) wk_X5 dX5_passDays_16 wf_X5_24 (by decide) (by first | assumption | decide) rfl rfl ?_
          refine J_aload_n (i := 0) (n := 20) dX5_passDays_19 rfl rfl rfl ?_
          refine T_get (k := 10) (n := 23) wk_X5 dX5_passDays_20 wf_X5_49 (by decide) (by first | assumption | decide) rfl rfl ?_
          refine J_aload_n (i := 0) (n := 24) dX5_passDays_23 rfl rfl rfl ?_
          refine T_get (k := 7) (n := 27) wk_X5 dX5_passDays_24 wf_X5_40 (by decide) (by first | assumption | decide) rfl rfl ?_
          rw [e10, e7]
          refine J_irem (n := 28) dX5_passDays_27 (nI_ne0 c0 (by omega)) rfl ?_
          rw [pk_rem (by omega) c0 (by omega)]
          refine T_iald (c := 5) (k := 4) (N := 6) (n := 29) dX5_passDays_28 (by decide) (by first | assumption | decide) rfl (vp_in_nI (by omega : p1.2.2 10 % p1.2.2 7 < 6) (by decide)) rfl ?_
          rw [nI_clamp (by omega), er, ← hnx]
          refine J_goto (tgt := 36) dX5_passDays_29 (by decide) ?_
          try rw [e8, ← hnx]
          rw [nI_leI (by omega) (by omega)] at c_4
          refine J_callVx (n := 39) wS_X5_passDay (c_W_passDay (Q := fun r h => r = none ∧ ∃ w2, wR w2 (pw_day p1 (pw_next p1)) ∧ h = hp G (gs_set σ 5 i w2)) d hi hw1 hO1 (pw_next_le hO1) (fun w2 h2 => ⟨rfl, w2, h2, rfl⟩)) dX5_passDays_36 wm_X5_75 ⟨wM_X5_passDay, wV_X5_passDay⟩ rfl (T_recv (by decide) (by first | assumption | decide)) rfl rfl (Nat.le_of_ble_eq_true rfl) rfl (fun r h1 hq1 => ?_)
          obtain ⟨rfl, w2, hw2, rfl⟩ := hq1
          refine J_inc (i := 2) (n := 42) (lv' := [(0, _), (1, _), (2, _)]) dX5_passDays_39 rfl (by decide) rfl rfl ?_
          refine J_goto (tgt := 2) dX5_passDays_42 (by decide) ?_
          refine ih (m + 1) _ w2 (by omega) (by omega) hw2 (pw_day_ok hO1 (pw_next_le hO1)) (by rw [pw_day_day]; omega) ?_
          rw [← hp1, show n - m = (n - (m + 1)) + 1 by omega]
          rfl
  refine gx_K.of' (lv := [(0, _), (1, _)]) (by decide) rfl (by decide) (Nat.le_of_ble_eq_true rfl) rfl ?_
  refine J_iconst (n := 1) dX5_passDays_0 kI_0 rfl ?_
  refine J_istore_n (i := 2) (n := 2) (lv' := [(0, _), (1, _), (2, _)]) dX5_passDays_1 rfl (by decide) rfl rfl ?_
  exact loop (n + 1) 0 p w (by omega) (by omega) hw hO (by omega) rfl

