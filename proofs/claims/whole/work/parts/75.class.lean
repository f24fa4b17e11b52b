set_option maxHeartbeats 4000000 in
set_option maxRecDepth 100000 in
theorem c_T_takesAll {G : gx_G} {σ : gs_S} {Q : Option Value → gx_Hp → Prop} {v t0 : gs_Ob} (d : Nat) {t : Nat → Nat} {L : Nat} (ht : tOk t L) (htp : ctp σ t L) (hqS : ∀ x, (parse t L) = .inr x → ∀ v1 t1, v1.2.1 8 = nI 0 → v1.2.1 9 = nI x.1 → wR t1 x.2 → Q (some (.int (nI 1))) (hp G (gs_set (gs_set σ 5 13 t1) 4 0 v1))) (hqF : ∀ e, (parse t L) = .inl e → ∀ v1 t1, cflt v1 e → Q (some (.int (nI 0))) (hp G (gs_set (gs_set σ 5 13 t1) 4 0 v1))) : gx_K G yX4_takesAll mX4_takesAll (d + 7) 0 0 [.ref (gs_a G 4 0 0)] (hp G (gs_set (gs_set σ 5 13 t0) 4 0 v)) Q := by
  refine gx_K.of' (lv := [(0, _)]) (by decide) rfl (by decide) (Nat.le_of_ble_eq_true rfl) rfl ?_
  have hL := ht.1
  have loop : ∀ m l i D td v1 t1, m + l = 161 → l ≤ i → i ≤ L → v1.2.1 8 = nI 0 → v1.2.1 2 = nI i → v1.2.1 9 = nI l → v1.2.1 5 = nI (tdb td) → wR t1 D → dOk D → (td 5 = false → D.2.2 7 = 0) → (parse t L) = tAll t L m l i D td → gx_J G mX4_takesAll (d + 7) 0 0 Q 27 [(0, .ref (gs_a G 4 0 0))] [] (hp G (gs_set (gs_set σ 5 13 t1) 4 0 v1)) := by
    intro m
    induction m with
    | zero => intro l i D td v1 t1 hml hli hiL; exfalso; omega
    | succ m ihm =>
      intro l i D td v1 t1 hml hli hiL h8 h2 h9 h5 hw1 hdo h7d hpa
      have hkk := tk_k (t := t) hiL
      have hpa : (parse t L) = (if (tk t L i).1 = 4 then .inl (1, tb t L i) else if (tk t L i).1 = 0 then .inr (l, D) else bnd (tLine t L D td (tw t L i) (tb t L i) (tk t L i).2.1) fun x => tAll t L m (l + 1) x.1 x.2 (tdn td (tw t L i)) : pE ⊕ (Nat × pw)) := hpa
      by_cases hk4 : (tk t L i).1 = 4
      · refine J_aload_n (i := 0) (n := 28) dX4_takesAll_27 rfl rfl rfl ?_
        refine T_get (k := 9) (n := 31) wk_X4 dX4_takesAll_28 wf_X4_38 (by decide) (by decide) rfl rfl ?_
        rw [h9]
        refine J_sipush (n := 34) dX4_takesAll_31 kS_160 rfl ?_
        refine J_icmp_gt (tgt := 77) (n := 37) dX4_takesAll_34 (by decide) rfl (fun c_34 => ?_) (fun c_34 => ?_)
        · exfalso
          rw [nI_ltI (by omega) (by omega)] at c_34
          omega
        · refine J_aload_n (i := 0) (n := 38) dX4_takesAll_37 rfl rfl rfl ?_
          refine J_callVx (n := 41) wS_X4_readsToken (c_T_readsToken (Q := fun r h => r = some (.int (nI 0)) ∧ ∃ v2, mA v1 v2 [2, 3, 4, 7, 8] ∧ cflt v2 (1, tb t L i) ∧ h = hp G (gs_set (gs_set σ 5 13 t1) 4 0 v2)) (d + 3) ht (htp.w t1) (i := i) hiL h2 (fun q => absurd hk4 q) (fun _ v2 a1 a2 => ⟨rfl, v2, a1, a2, rfl⟩)) dX4_takesAll_38 wm_X4_41 ⟨wM_X4_readsToken, wV_X4_readsToken⟩ rfl (T_recv (by decide) (by decide)) rfl rfl (Nat.le_of_ble_eq_true rfl) rfl (fun r h1 hq1 => ?_)
          obtain ⟨rfl, v2, hA2, hf2, rfl⟩ := hq1
          refine J_if_ne (tgt := 46) (n := 44) dX4_takesAll_41 (by decide) rfl (fun c_41 => ?_) (fun c_41 => ?_)
          · exact absurd rfl c_41
          · refine J_iconst (n := 45) dX4_takesAll_44 kI_0 rfl ?_
            refine J_iret dX4_takesAll_45 rfl (by first | exact kN_0 | exact kN_1) ?_
            exact hqF _ (hpa.trans (if_pos hk4)) v2 t1 hf2
      · rw [if_neg hk4] at hpa
        by_cases hk0 : (tk t L i).1 = 0
        · rw [if_pos hk0] at hpa
          refine J_aload_n (i := 0) (n := 28) dX4_takesAll_27 rfl rfl rfl ?_
          refine T_get (k := 9) (n := 31) wk_X4 dX4_takesAll_28 wf_X4_38 (by decide) (by decide) rfl rfl ?_
          rw [h9]
          refine J_sipush (n := 34) dX4_takesAll_31 kS_160 rfl ?_
          refine J_icmp_gt (tgt := 77) (n := 37) dX4_takesAll_34 (by decide) rfl (fun c_34 => ?_) (fun c_34 => ?_)
          · exfalso
            rw [nI_ltI (by omega) (by omega)] at c_34
            omega
          · refine J_aload_n (i := 0) (n := 38) dX4_takesAll_37 rfl rfl rfl ?_
            refine J_callVx (n := 41) wS_X4_readsToken (c_T_readsToken (Q := fun r h => r = some (.int (nI 1)) ∧ ∃ v2, mA v1 v2 [2, 3, 4, 7, 8] ∧ v2.2.1 8 = v1.2.1 8 ∧ ctk v2 t L i ∧ h = hp G (gs_set (gs_set σ 5 13 t1) 4 0 v2)) (d + 3) ht (htp.w t1) (i := i) hiL h2 (fun _ v2 a1 a2 a3 => ⟨rfl, v2, a1, a2, a3, rfl⟩) (fun q => absurd q hk4)) dX4_takesAll_38 wm_X4_41 ⟨wM_X4_readsToken, wV_X4_readsToken⟩ rfl (T_recv (by decide) (by decide)) rfl rfl (Nat.le_of_ble_eq_true rfl) rfl (fun r h1 hq1 => ?_)
            obtain ⟨rfl, v2, hA2, h82, hx2, rfl⟩ := hq1
            have e8 : v2.2.1 8 = nI 0 := by rw [h82]; exact h8
            have e9 : v2.2.1 9 = nI l := by rw [hA2.2 9 (by decide)]; exact h9
            have e5 : v2.2.1 5 = nI (tdb td) := by rw [hA2.2 5 (by decide)]; exact h5
            refine J_if_ne (tgt := 46) (n := 44) dX4_takesAll_41 (by decide) rfl (fun c_41 => ?_) (fun c_41 => ?_)
            · refine J_aload_n (i := 0) (n := 47) dX4_takesAll_46 rfl rfl rfl ?_
              refine T_get (k := 3) (n := 50) wk_X4 dX4_takesAll_47 wf_X4_45 (by decide) (by decide) rfl rfl ?_
              rw [hx2.2.2.1]
              refine J_if_ne (tgt := 55) (n := 53) dX4_takesAll_50 (by decide) rfl (fun c_50 => ?_) (fun c_50 => ?_)
              · exact absurd (by rw [hk0]; rfl) c_50
              · refine J_iconst (n := 54) dX4_takesAll_53 kI_1 rfl ?_
                refine J_iret dX4_takesAll_54 rfl (by first | exact kN_0 | exact kN_1) ?_
                exact hqS (l, D) hpa v2 t1 e8 e9 hw1
            · exact absurd c_41 (by decide +kernel)
        · rw [if_neg hk0] at hpa
          cases hT : (tLine t L D td (tw t L i) (tb t L i) (tk t L i).2.1) with
          | inl e =>
            rw [hT] at hpa
            refine J_aload_n (i := 0) (n := 28) dX4_takesAll_27 rfl rfl rfl ?_
            refine T_get (k := 9) (n := 31) wk_X4 dX4_takesAll_28 wf_X4_38 (by decide) (by decide) rfl rfl ?_
            rw [h9]
            refine J_sipush (n := 34) dX4_takesAll_31 kS_160 rfl ?_
            refine J_icmp_gt (tgt := 77) (n := 37) dX4_takesAll_34 (by decide) rfl (fun c_34 => ?_) (fun c_34 => ?_)
            · exfalso
              rw [nI_ltI (by omega) (by omega)] at c_34
              omega
            · refine J_aload_n (i := 0) (n := 38) dX4_takesAll_37 rfl rfl rfl ?_
              refine J_callVx (n := 41) wS_X4_readsToken (c_T_readsToken (Q := fun r h => r = some (.int (nI 1)) ∧ ∃ v2, mA v1 v2 [2, 3, 4, 7, 8] ∧ v2.2.1 8 = v1.2.1 8 ∧ ctk v2 t L i ∧ h = hp G (gs_set (gs_set σ 5 13 t1) 4 0 v2)) (d + 3) ht (htp.w t1) (i := i) hiL h2 (fun _ v2 a1 a2 a3 => ⟨rfl, v2, a1, a2, a3, rfl⟩) (fun q => absurd q hk4)) dX4_takesAll_38 wm_X4_41 ⟨wM_X4_readsToken, wV_X4_readsToken⟩ rfl (T_recv (by decide) (by decide)) rfl rfl (Nat.le_of_ble_eq_true rfl) rfl (fun r h1 hq1 => ?_)
              obtain ⟨rfl, v2, hA2, h82, hx2, rfl⟩ := hq1
              have e8 : v2.2.1 8 = nI 0 := by rw [h82]; exact h8
              have e9 : v2.2.1 9 = nI l := by rw [hA2.2 9 (by decide)]; exact h9
              have e5 : v2.2.1 5 = nI (tdb td) := by rw [hA2.2 5 (by decide)]; exact h5
              refine J_if_ne (tgt := 46) (n := 44) dX4_takesAll_41 (by decide) rfl (fun c_41 => ?_) (fun c_41 => ?_)
              · refine J_aload_n (i := 0) (n := 47) dX4_takesAll_46 rfl rfl rfl ?_
                refine T_get (k := 3) (n := 50) wk_X4 dX4_takesAll_47 wf_X4_45 (by decide) (by decide) rfl rfl ?_
                rw [hx2.2.2.1]
                refine J_if_ne (tgt := 55) (n := 53) dX4_takesAll_50 (by decide) rfl (fun c_50 => ?_) (fun c_50 => ?_)
                · refine J_aload_n (i := 0) (n := 56) dX4_takesAll_55 rfl rfl rfl ?_
                  refine J_callVx (n := 59) wS_X4_takesLine (c_T_takesLine (Q := fun r h => r = some (.int (nI 0)) ∧ ∃ v3 t3, cflt v3 e ∧ h = hp G (gs_set (gs_set σ 5 13 t3) 4 0 v3)) d ht htp hiL hk4 hx2 hw1 hdo.1.2.2.2.2.1 e5 (fun z hz => (inl_ne hT hz).elim) (fun z hz => by rw [hT] at hz; cases hz; exact fun v3 t3 _ a2 => ⟨rfl, v3, t3, a2, rfl⟩)) dX4_takesAll_56 wm_X4_48 ⟨wM_X4_takesLine, wV_X4_takesLine⟩ rfl (T_recv (by decide) (by decide)) rfl rfl (Nat.le_of_ble_eq_true rfl) rfl (fun r h1 hq1 => ?_)
                  obtain ⟨rfl, v3, t3, hf3, rfl⟩ := hq1
                  refine J_if_ne (tgt := 64) (n := 62) dX4_takesAll_59 (by decide) rfl (fun c_59 => ?_) (fun c_59 => ?_)
                  · exact absurd rfl c_59
                  · refine J_iconst (n := 63) dX4_takesAll_62 kI_0 rfl ?_
                    refine J_iret dX4_takesAll_63 rfl (by first | exact kN_0 | exact kN_1) ?_
                    exact hqF e hpa v3 t3 hf3
                · exact absurd c_50 (nI_ne hk0 (by omega) (by decide))
              · exact absurd c_41 (by decide +kernel)
          | inr x =>
            rw [hT] at hpa
            obtain ⟨b1, b2, b3, b4⟩ := tLine_ok hT (tk_le hiL hk4).2 hdo h7d
            have hti := tk_lt hiL hk4 hk0
            refine J_aload_n (i := 0) (n := 28) dX4_takesAll_27 rfl rfl rfl ?_
            refine T_get (k := 9) (n := 31) wk_X4 dX4_takesAll_28 wf_X4_38 (by decide) (by decide) rfl rfl ?_
            rw [h9]
            refine J_sipush (n := 34) dX4_takesAll_31 kS_160 rfl ?_
            refine J_icmp_gt (tgt := 77) (n := 37) dX4_takesAll_34 (by decide) rfl (fun c_34 => ?_) (fun c_34 => ?_)
            · exfalso
              rw [nI_ltI (by omega) (by omega)] at c_34
              omega
            · refine J_aload_n (i := 0) (n := 38) dX4_takesAll_37 rfl rfl rfl ?_
              refine J_callVx (n := 41) wS_X4_readsToken (c_T_readsToken (Q := fun r h => r = some (.int (nI 1)) ∧ ∃ v2, mA v1 v2 [2, 3, 4, 7, 8] ∧ v2.2.1 8 = v1.2.1 8 ∧ ctk v2 t L i ∧ h = hp G (gs_set (gs_set σ 5 13 t1) 4 0 v2)) (d + 3) ht (htp.w t1) (i := i) hiL h2 (fun _ v2 a1 a2 a3 => ⟨rfl, v2, a1, a2, a3, rfl⟩) (fun q => absurd q hk4)) dX4_takesAll_38 wm_X4_41 ⟨wM_X4_readsToken, wV_X4_readsToken⟩ rfl (T_recv (by decide) (by decide)) rfl rfl (Nat.le_of_ble_eq_true rfl) rfl (fun r h1 hq1 => ?_)
              obtain ⟨rfl, v2, hA2, h82, hx2, rfl⟩ := hq1
              have e8 : v2.2.1 8 = nI 0 := by rw [h82]; exact h8
              have e9 : v2.2.1 9 = nI l := by rw [hA2.2 9 (by decide)]; exact h9
              have e5 : v2.2.1 5 = nI (tdb td) := by rw [hA2.2 5 (by decide)]; exact h5
              refine J_if_ne (tgt := 46) (n := 44) dX4_takesAll_41 (by decide) rfl (fun c_41 => ?_) (fun c_41 => ?_)
              · refine J_aload_n (i := 0) (n := 47) dX4_takesAll_46 rfl rfl rfl ?_
                refine T_get (k := 3) (n := 50) wk_X4 dX4_takesAll_47 wf_X4_45 (by decide) (by decide) rfl rfl ?_
                rw [hx2.2.2.1]
                refine J_if_ne (tgt := 55) (n := 53) dX4_takesAll_50 (by decide) rfl (fun c_50 => ?_) (fun c_50 => ?_)
                · refine J_aload_n (i := 0) (n := 56) dX4_takesAll_55 rfl rfl rfl ?_
                  refine J_callVx (n := 59) wS_X4_takesLine (c_T_takesLine (Q := fun r h => r = some (.int (nI 1)) ∧ ∃ v3 t3, mA v2 v3 [2, 3, 4, 5, 6, 7, 8] ∧ v3.2.1 8 = v2.2.1 8 ∧ v3.2.1 2 = nI x.1 ∧ v3.2.1 5 = nI (tdb (tdn td (tw t L i))) ∧ wR t3 x.2 ∧ h = hp G (gs_set (gs_set σ 5 13 t3) 4 0 v3)) d ht htp hiL hk4 hx2 hw1 hdo.1.2.2.2.2.1 e5 (fun z hz => by rw [hT] at hz; cases hz; exact fun v3 t3 a1 a2 a3 a4 a5 => ⟨rfl, v3, t3, a1, a2, a3, a4, a5, rfl⟩) (fun z hz => (inl_ne hz hT).elim)) dX4_takesAll_56 wm_X4_48 ⟨wM_X4_takesLine, wV_X4_takesLine⟩ rfl (T_recv (by decide) (by decide)) rfl rfl (Nat.le_of_ble_eq_true rfl) rfl (fun r h1 hq1 => ?_)
                  obtain ⟨rfl, v3, t3, hA3, h83, h23, h53, hw3, rfl⟩ := hq1
                  have f9 : v3.2.1 9 = nI l := by rw [hA3.2 9 (by decide)]; exact e9
                  refine J_if_ne (tgt := 64) (n := 62) dX4_takesAll_59 (by decide) rfl (fun c_59 => ?_) (fun c_59 => ?_)
                  · refine J_aload_n (i := 0) (n := 65) dX4_takesAll_64 rfl rfl rfl ?_
                    refine J_dup (n := 66) dX4_takesAll_65 rfl rfl ?_
                    refine T_get (k := 9) (n := 69) wk_X4 dX4_takesAll_66 wf_X4_38 (by decide) (by decide) rfl rfl ?_
                    rw [f9]
                    refine J_iconst (n := 70) dX4_takesAll_69 kI_1 rfl ?_
                    refine J_iadd (n := 71) dX4_takesAll_70 rfl ?_
                    rw [nI_add]
                    refine T_putI (k := 9) (n := 74) wk_X4 dX4_takesAll_71 wf_X4_38 (by decide) (by decide) (kN_i _) rfl (Nat.le_of_ble_eq_true rfl) rfl rfl ?_
                    refine J_goto (tgt := 27) dX4_takesAll_74 (by decide) ?_
                    exact ihm (l + 1) x.1 x.2 _ _ t3 (by omega) (by omega) b3 (by rw [gsf_n _ _ (by decide), h83]; exact e8) (by rw [gsf_n _ _ (by decide)]; exact h23) (gsf_s _ _ _) (by rw [gsf_n _ _ (by decide)]; exact h53) hw3 b1 b4 hpa
                  · exact absurd c_59 (by decide +kernel)
                · exact absurd c_50 (nI_ne hk0 (by omega) (by decide))
              · exact absurd c_41 (by decide +kernel)
  refine J_aload_n (i := 0) (n := 1) dX4_takesAll_0 rfl rfl rfl ?_
  refine T_get (k := 1) (n := 4) wk_X4 dX4_takesAll_1 wf_X4_21 (by decide) (by decide) rfl rfl ?_
  rw [gs_cm]
  refine J_callVx (n := 7) wS_X5_makeEmpty (c_W_makeEmpty (Q := fun r h => r = none ∧ ∃ t1, wR t1 D0 ∧ h = hp G (gs_set (gs_set σ 4 0 v) 5 13 t1)) (d + 5) (by decide) (fun t1 h1 => ⟨rfl, t1, h1, rfl⟩)) dX4_takesAll_4 wm_X4_25 ⟨wM_X5_makeEmpty, wV_X5_makeEmpty⟩ rfl (T_recv (by decide) (by decide)) rfl rfl (Nat.le_of_ble_eq_true rfl) rfl (fun r h1 hq1 => ?_)
  obtain ⟨rfl, t1, hw1, rfl⟩ := hq1
  rw [← gs_cm]
  refine J_aload_n (i := 0) (n := 8) dX4_takesAll_7 rfl rfl rfl ?_
  refine J_iconst (n := 9) dX4_takesAll_8 kI_0 rfl ?_
  refine T_putI (k := 2) (n := 12) wk_X4 dX4_takesAll_9 wf_X4_28 (by decide) (by decide) (kN_i _) rfl (Nat.le_of_ble_eq_true rfl) rfl rfl ?_
  refine J_aload_n (i := 0) (n := 13) dX4_takesAll_12 rfl rfl rfl ?_
  refine J_iconst (n := 14) dX4_takesAll_13 kI_0 rfl ?_
  refine T_putI (k := 5) (n := 17) wk_X4 dX4_takesAll_14 wf_X4_32 (by decide) (by decide) (kN_i _) rfl (Nat.le_of_ble_eq_true rfl) rfl rfl ?_
  refine J_aload_n (i := 0) (n := 18) dX4_takesAll_17 rfl rfl rfl ?_
  refine J_iconst (n := 19) dX4_takesAll_18 kI_0 rfl ?_
  refine T_putI (k := 8) (n := 22) wk_X4 dX4_takesAll_19 wf_X4_35 (by decide) (by decide) (kN_i _) rfl (Nat.le_of_ble_eq_true rfl) rfl rfl ?_
  refine J_aload_n (i := 0) (n := 23) dX4_takesAll_22 rfl rfl rfl ?_
  refine J_iconst (n := 24) dX4_takesAll_23 kI_0 rfl ?_
  refine T_putI (k := 9) (n := 27) wk_X4 dX4_takesAll_24 wf_X4_38 (by decide) (by decide) (kN_i _) rfl (Nat.le_of_ble_eq_true rfl) rfl rfl ?_
  exact loop 161 0 0 D0 (fun _ => false) _ t1 rfl (Nat.le_refl _) (Nat.zero_le _) (by rw [gsf_n _ _ (by decide)]; exact gsf_s _ _ _) (by rw [gsf_n _ _ (by decide), gsf_n _ _ (by decide), gsf_n _ _ (by decide)]; exact gsf_s _ _ _) (gsf_s _ _ _) (by rw [gsf_n _ _ (by decide), gsf_n _ _ (by decide)]; exact gsf_s _ _ _) hw1 D0_ok (fun _ => rfl) rfl

theorem gs_id (σ : gs_S) (c i : Nat) : gs_set σ c i (σ c i) = σ := by
  funext a b
  by_cases h : a = c ∧ b = i
  · obtain ⟨rfl, rfl⟩ := h; rw [gs_same]
  · rw [gs_ne h]
theorem cR.txr {σ τ : gs_S} {S : pS} {D : pw} (h : cR σ S) (hw : wR (τ 5 0) D) (hs : (τ 2 0).2.1 3 = nI 0) (hk : ∀ k, k < 2 → (τ 0 k).2.1 2 = nI 0) (ht : (τ 3 0).2.1 1 = nI 0) (h8 : (τ 6 0).2.1 7 = nI 0) (h9 : (τ 6 0).2.1 8 = (σ 6 0).2.1 8) (h1 : ∀ k, τ 1 k = σ 1 k) : cR τ (pS_f ((D, (S.1.2.1, 0)), (fun _ => false), S.2.2.1, (S.2.2.2.1.1, 0), S.2.2.2.2) 0 0) := by
  obtain ⟨a1, a2, a3, a4, a5⟩ := h
  refine ⟨⟨hw, ⟨fun k _ j hj => absurd hj (Nat.not_lt_zero _), hs⟩⟩, fun k hk0 => ⟨hk k hk0, fun q => by cases q⟩, ⟨fun q hq => absurd hq (Nat.not_lt_zero _), ht⟩, ⟨h8, by rw [h9]; exact a4.2⟩, fun k hk0 => by rw [h1 k]; exact a5 k hk0⟩
set_option maxHeartbeats 4000000 in
set_option maxRecDepth 100000 in
theorem c_G_text {G : gx_G} {σ : gs_S} {Q : Option Value → gx_Hp → Prop} {S : pS} (d : Nat) (hS : SOk S) (hc : cR σ S) (hq : ∀ τ, cR τ (sp_text S).2 → τ 7 0 = σ 7 0 → Q (some (.int (sp_text S).1)) (hp G τ)) : gx_K G yX6_text mX6_text (d + 12) 0 0 [.ref (gs_a G 6 0 0)] (hp G σ) Q := by
  have ht : tOk S.2.2.2.1.1 S.2.2.2.1.2 := hS.2.2.1
  have htp : ctp σ S.2.2.2.1.1 S.2.2.2.1.2 := hc.2.2.1
  cases hpe : parse S.2.2.2.1.1 S.2.2.2.1.2 with
  | inl e =>
    have hta : gx_K G yX4_takesAll mX4_takesAll (d + 11) 0 0 [.ref (gs_a G 4 0 0)] (hp G σ) (fun r h => r = some (.int (nI 0)) ∧ ∃ v1 t1, cflt v1 e ∧ h = hp G (gs_set (gs_set σ 5 13 t1) 4 0 v1)) := by
      have h0 := c_T_takesAll (G := G) (σ := σ) (v := σ 4 0) (t0 := σ 5 13) (Q := (fun r h => r = some (.int (nI 0)) ∧ ∃ v1 t1, cflt v1 e ∧ h = hp G (gs_set (gs_set σ 5 13 t1) 4 0 v1))) (d + 4) ht htp (fun z hz => (inl_ne hpe hz).elim) (fun z hz => by rw [hpe] at hz; cases hz; exact fun v1 t1 a => ⟨rfl, v1, t1, a, rfl⟩)
      rw [gs_id, gs_id] at h0
      exact h0
    refine gx_K.of' (lv := [(0, _)]) (by decide) rfl (by decide) (Nat.le_of_ble_eq_true rfl) rfl ?_
    refine J_aload_n (i := 0) (n := 1) dX6_text_0 rfl rfl rfl ?_
    refine T_getO (k := 4) (n := 4) wk_X6 dX6_text_1 wf_X6_33 (by decide) (by decide) rfl rfl ?_
    refine J_callVx (n := 7) wS_X4_takesAll (hta) dX6_text_4 wm_X6_69 ⟨wM_X4_takesAll, wV_X4_takesAll⟩ rfl (T_recv (by decide) (by decide)) rfl rfl (Nat.le_of_ble_eq_true rfl) rfl (fun r h1 hq1 => ?_)
    obtain ⟨rfl, v1, t1, hf1, rfl⟩ := hq1
    have hc1 : cR (gs_set (gs_set σ 5 13 t1) 4 0 v1) S := hc.scr (fun c i hn => by rw [gs_ne (fun q => hn (Or.inr (Or.inl q.1))), gs_ne (fun q => hn (Or.inr (Or.inr q)))])
    refine J_istore_n (i := 1) (n := 8) (lv' := [(0, _), (1, _)]) dX6_text_7 rfl (by decide) rfl rfl ?_
    refine J_aload_n (i := 0) (n := 9) dX6_text_8 rfl rfl rfl ?_
    refine T_getO (k := 4) (n := 12) wk_X6 dX6_text_9 wf_X6_33 (by decide) (by decide) rfl rfl ?_
    refine T_getO (k := 0) (n := 15) wk_X4 dX6_text_12 wf_X6_55 (by decide) (by decide) rfl rfl ?_
    refine J_iconst (n := 16) dX6_text_15 kI_0 rfl ?_
    refine J_eta 3 0 ?_
    refine T_putI (k := 1) (n := 19) wk_X3 dX6_text_16 wf_X6_59 (by decide) (by decide) (kN_i _) rfl (Nat.le_of_ble_eq_true rfl) rfl rfl ?_
    refine J_aload_n (i := 0) (n := 20) dX6_text_19 rfl rfl rfl ?_
    refine J_aload_n (i := 0) (n := 21) dX6_text_20 rfl rfl rfl ?_
    refine T_getO (k := 4) (n := 24) wk_X6 dX6_text_21 wf_X6_33 (by decide) (by decide) rfl rfl ?_
    refine T_getO (k := 8) (n := 27) wk_X4 dX6_text_24 wf_X6_73 (by decide) (by decide) rfl rfl ?_
    rw [show (gs_set (gs_set (gs_set σ 5 13 t1) 4 0 v1) 3 0 (gs_f ((gs_set (gs_set σ 5 13 t1) 4 0 v1) 3 0) 1 (nI 0))) 4 0 = v1 by rw [gs_neC (by decide), gs_same], hf1.1]
    refine J_eta 6 0 ?_
    refine T_putI (k := 7) (n := 30) wk_X6 dX6_text_27 wf_X6_76 (by decide) (by decide) (kN_i _) rfl (Nat.le_of_ble_eq_true rfl) rfl rfl ?_
    refine J_iload_n (i := 1) (n := 31) dX6_text_30 rfl rfl rfl ?_
    refine J_if_ne (tgt := 45) (n := 34) dX6_text_31 (by decide) rfl (fun c_31 => ?_) (fun c_31 => ?_)
    · exact absurd rfl c_31
    · refine J_bipush (n := 36) dX6_text_34 kB_m10 rfl ?_
      refine J_aload_n (i := 0) (n := 37) dX6_text_36 rfl rfl rfl ?_
      refine T_getO (k := 4) (n := 40) wk_X6 dX6_text_37 wf_X6_33 (by decide) (by decide) rfl rfl ?_
      refine T_getO (k := 7) (n := 43) wk_X4 dX6_text_40 wf_X6_79 (by decide) (by decide) rfl rfl ?_
      rw [show (gs_set (gs_set (gs_set (gs_set σ 5 13 t1) 4 0 v1) 3 0 (gs_f ((gs_set (gs_set σ 5 13 t1) 4 0 v1) 3 0) 1 (nI 0))) 6 0 (gs_f ((gs_set (gs_set (gs_set σ 5 13 t1) 4 0 v1) 3 0 (gs_f ((gs_set (gs_set σ 5 13 t1) 4 0 v1) 3 0) 1 (nI 0))) 6 0) 7 (nI e.1))) 4 0 = v1 by rw [gs_neC (by decide), gs_neC (by decide), gs_same], hf1.2]
      refine J_isub (n := 44) dX6_text_43 rfl ?_
      refine J_iret dX6_text_44 rfl (kN_i _) ?_
      rw [sp_text_l hpe] at hq
      exact hq _ ((hc1.tape (t := (S.2.2.2.1.1, 0)) (w := gs_f ((gs_set (gs_set σ 5 13 t1) 4 0 v1) 3 0) 1 (nI 0)) ⟨fun q hq0 => absurd hq0 (Nat.not_lt_zero _), gsf_s _ _ _⟩).fault (k := 0) e.1 (Or.inl rfl)) (by rw [gs_neC (by decide), gs_neC (by decide), gs_neC (by decide), gs_neC (by decide)])
  | inr x =>
    have hdo := parse_ok hpe
    have loop : ∀ u e τ, 2 - e < u → e ≤ 2 → wR (τ 5 0) x.2 → (τ 2 0).2.1 3 = nI 0 → (∀ k, k < e → (τ 0 k).2.1 2 = nI 0) → (τ 3 0).2.1 1 = nI 0 → (τ 6 0).2.1 7 = nI 0 → (τ 6 0).2.1 8 = (σ 6 0).2.1 8 → (∀ k, τ 1 k = σ 1 k) → (τ 4 0).2.1 9 = nI x.1 → τ 7 0 = σ 7 0 → gx_J G mX6_text (d + 12) 0 0 Q 69 [(0, .ref (gs_a G 6 0 0)), (1, .int (nI 1)), (2, .int (nI e))] [] (hp G τ) := by
      intro u
      induction u with
      | zero => intros; exact absurd (by assumption) (Nat.not_lt_zero _)
      | succ u ihu =>
        intro e τ hu he g1 g2 g3 g4 g5 g6 g7 g8 g9
        refine J_iload_n (i := 2) (n := 70) dX6_text_69 rfl rfl rfl ?_
        refine J_aload_n (i := 0) (n := 71) dX6_text_70 rfl rfl rfl ?_
        refine T_getO (k := 5) (n := 74) wk_X6 dX6_text_71 wf_X6_39 (by decide) (by decide) rfl rfl ?_
        refine T_alen (c := 6) (k := 5) (t := 4) (v := 2) (n := 75) dX6_text_74 (by decide) (by decide) rfl rfl rfl rfl ?_
        rw [show (2 : Int32) = nI 2 from rfl]
        refine J_icmp_ge (tgt := 94) (n := 78) dX6_text_75 (by decide) rfl (fun c_75 => ?_) (fun c_75 => ?_)
        · refine J_aload_n (i := 0) (n := 95) dX6_text_94 rfl rfl rfl ?_
          refine T_getO (k := 4) (n := 98) wk_X6 dX6_text_95 wf_X6_33 (by decide) (by decide) rfl rfl ?_
          refine T_getO (k := 9) (n := 101) wk_X4 dX6_text_98 wf_X6_96 (by decide) (by decide) rfl rfl ?_
          rw [g8]
          refine J_iret dX6_text_101 rfl (kN_i _) ?_
          rw [nI_leI (by omega) (by omega)] at c_75
          have ee : e = 2 := by omega
          subst ee
          rw [sp_text_r hpe] at hq
          exact hq τ (hc.txr g1 g2 g3 g4 g5 g6 g7) g9
        · rw [nI_leI (by omega) (by omega)] at c_75
          have hk2 : e < gs_cnt 0 := by show e < 2; omega
          refine J_aload_n (i := 0) (n := 79) dX6_text_78 rfl rfl rfl ?_
          refine T_getO (k := 5) (n := 82) wk_X6 dX6_text_79 wf_X6_39 (by decide) (by decide) rfl rfl ?_
          refine J_iload_n (i := 2) (n := 83) dX6_text_82 rfl rfl rfl ?_
          refine T_aald (k := 5) (t := 4) (N := 2) (n := 84) dX6_text_83 (by decide) rfl rfl (vp_in_nI (by omega) (by decide)) rfl rfl ?_
          rw [nI_clamp (by omega)]
          refine J_eta 0 e ?_
          refine J_iconst (n := 85) dX6_text_84 kI_0 rfl ?_
          refine T_putI (k := 2) (n := 88) wk_X0 dX6_text_85 wf_X6_92 (by decide) hk2 kN_0 rfl (Nat.le_of_ble_eq_true rfl) rfl rfl ?_
          refine J_inc (i := 2) (n := 91) (lv' := [(0, _), (1, _), (2, _)]) dX6_text_88 rfl (by decide) rfl rfl ?_
          refine J_goto (tgt := 69) dX6_text_91 (by decide) ?_
          refine ihu (e + 1) _ (by omega) (by omega) (by rw [gs_neC (by decide)]; exact g1) (by rw [gs_neC (by decide)]; exact g2) (fun k hk => ?_) (by rw [gs_neC (by decide)]; exact g4) (by rw [gs_neC (by decide)]; exact g5) (by rw [gs_neC (by decide)]; exact g6) (fun k => by rw [gs_neC (by decide)]; exact g7 k) (by rw [gs_neC (by decide)]; exact g8) (by rw [gs_neC (by decide)]; exact g9)
          by_cases ek : k = e
          · subst ek; rw [gs_same]; exact gsf_s _ _ _
          · rw [gs_neI ek]; exact g3 k (by omega)
    have hta : gx_K G yX4_takesAll mX4_takesAll (d + 11) 0 0 [.ref (gs_a G 4 0 0)] (hp G σ) (fun r h => r = some (.int (nI 1)) ∧ ∃ v1 t1, v1.2.1 8 = nI 0 ∧ v1.2.1 9 = nI x.1 ∧ wR t1 x.2 ∧ h = hp G (gs_set (gs_set σ 5 13 t1) 4 0 v1)) := by
      have h0 := c_T_takesAll (G := G) (σ := σ) (v := σ 4 0) (t0 := σ 5 13) (Q := (fun r h => r = some (.int (nI 1)) ∧ ∃ v1 t1, v1.2.1 8 = nI 0 ∧ v1.2.1 9 = nI x.1 ∧ wR t1 x.2 ∧ h = hp G (gs_set (gs_set σ 5 13 t1) 4 0 v1))) (d + 4) ht htp (fun z hz => by rw [hpe] at hz; cases hz; exact fun v1 t1 a1 a2 a3 => ⟨rfl, v1, t1, a1, a2, a3, rfl⟩) (fun z hz => (inl_ne hz hpe).elim)
      rw [gs_id, gs_id] at h0
      exact h0
    refine gx_K.of' (lv := [(0, _)]) (by decide) rfl (by decide) (Nat.le_of_ble_eq_true rfl) rfl ?_
    refine J_aload_n (i := 0) (n := 1) dX6_text_0 rfl rfl rfl ?_
    refine T_getO (k := 4) (n := 4) wk_X6 dX6_text_1 wf_X6_33 (by decide) (by decide) rfl rfl ?_
    refine J_callVx (n := 7) wS_X4_takesAll (hta) dX6_text_4 wm_X6_69 ⟨wM_X4_takesAll, wV_X4_takesAll⟩ rfl (T_recv (by decide) (by decide)) rfl rfl (Nat.le_of_ble_eq_true rfl) rfl (fun r h1 hq1 => ?_)
    obtain ⟨rfl, v1, t1, h81, h91, hw1, rfl⟩ := hq1
    refine J_istore_n (i := 1) (n := 8) (lv' := [(0, _), (1, _)]) dX6_text_7 rfl (by decide) rfl rfl ?_
    refine J_aload_n (i := 0) (n := 9) dX6_text_8 rfl rfl rfl ?_
    refine T_getO (k := 4) (n := 12) wk_X6 dX6_text_9 wf_X6_33 (by decide) (by decide) rfl rfl ?_
    refine T_getO (k := 0) (n := 15) wk_X4 dX6_text_12 wf_X6_55 (by decide) (by decide) rfl rfl ?_
    refine J_iconst (n := 16) dX6_text_15 kI_0 rfl ?_
    refine J_eta 3 0 ?_
    refine T_putI (k := 1) (n := 19) wk_X3 dX6_text_16 wf_X6_59 (by decide) (by decide) (kN_i _) rfl (Nat.le_of_ble_eq_true rfl) rfl rfl ?_
    refine J_aload_n (i := 0) (n := 20) dX6_text_19 rfl rfl rfl ?_
    refine J_aload_n (i := 0) (n := 21) dX6_text_20 rfl rfl rfl ?_
    refine T_getO (k := 4) (n := 24) wk_X6 dX6_text_21 wf_X6_33 (by decide) (by decide) rfl rfl ?_
    refine T_getO (k := 8) (n := 27) wk_X4 dX6_text_24 wf_X6_73 (by decide) (by decide) rfl rfl ?_
    rw [show (gs_set (gs_set (gs_set σ 5 13 t1) 4 0 v1) 3 0 (gs_f ((gs_set (gs_set σ 5 13 t1) 4 0 v1) 3 0) 1 (nI 0))) 4 0 = v1 by rw [gs_neC (by decide), gs_same], h81]
    refine J_eta 6 0 ?_
    refine T_putI (k := 7) (n := 30) wk_X6 dX6_text_27 wf_X6_76 (by decide) (by decide) (kN_i _) rfl (Nat.le_of_ble_eq_true rfl) rfl rfl ?_
    refine J_iload_n (i := 1) (n := 31) dX6_text_30 rfl rfl rfl ?_
    refine J_if_ne (tgt := 45) (n := 34) dX6_text_31 (by decide) rfl (fun c_31 => ?_) (fun c_31 => ?_)
    · refine J_aload_n (i := 0) (n := 46) dX6_text_45 rfl rfl rfl ?_
      refine T_getO (k := 0) (n := 49) wk_X6 dX6_text_46 wf_X6_10 (by decide) (by decide) rfl rfl ?_
      refine J_aload_n (i := 0) (n := 50) dX6_text_49 rfl rfl rfl ?_
      refine T_getO (k := 4) (n := 53) wk_X6 dX6_text_50 wf_X6_33 (by decide) (by decide) rfl rfl ?_
      refine T_getO (k := 1) (n := 56) wk_X4 dX6_text_53 wf_X6_82 (by decide) (by decide) rfl rfl ?_
      refine J_callVx (n := 59) wS_X5_become (K_eta 5 0 (c_W_become (Q := fun r h => r = none ∧ ∃ t2, wR t2 x.2 ∧ h = hp G (gs_set (gs_set (gs_set (gs_set (gs_set σ 5 13 t1) 4 0 v1) 3 0 (gs_f ((gs_set (gs_set σ 5 13 t1) 4 0 v1) 3 0) 1 (nI 0))) 6 0 (gs_f ((gs_set (gs_set (gs_set σ 5 13 t1) 4 0 v1) 3 0 (gs_f ((gs_set (gs_set σ 5 13 t1) 4 0 v1) 3 0) 1 (nI 0))) 6 0) 7 (nI 0))) 5 0 t2)) (d + 10) (i := 0) (j := 13) (by decide) (by decide) (by decide) (show wR ((gs_set (gs_set (gs_set (gs_set σ 5 13 t1) 4 0 v1) 3 0 (gs_f ((gs_set (gs_set σ 5 13 t1) 4 0 v1) 3 0) 1 (nI 0))) 6 0 (gs_f ((gs_set (gs_set (gs_set σ 5 13 t1) 4 0 v1) 3 0 (gs_f ((gs_set (gs_set σ 5 13 t1) 4 0 v1) 3 0) 1 (nI 0))) 6 0) 7 (nI 0))) 5 13) x.2 by rw [gs_neC (by decide), gs_neC (by decide), gs_neC (by decide), gs_same]; exact hw1) hdo.1 (fun t2 h2 => ⟨rfl, t2, h2, rfl⟩))) dX6_text_56 wm_X6_85 ⟨wM_X5_become, wV_X5_become⟩ rfl (T_recv (by decide) (by decide)) rfl rfl (Nat.le_of_ble_eq_true rfl) rfl (fun r h1 hq1 => ?_)
      obtain ⟨rfl, t2, hw2, rfl⟩ := hq1
      refine J_aload_n (i := 0) (n := 60) dX6_text_59 rfl rfl rfl ?_
      refine T_getO (k := 1) (n := 63) wk_X6 dX6_text_60 wf_X6_19 (by decide) (by decide) rfl rfl ?_
      refine J_iconst (n := 64) dX6_text_63 kI_0 rfl ?_
      refine J_eta 2 0 ?_
      refine T_putI (k := 3) (n := 67) wk_X2 dX6_text_64 wf_X6_89 (by decide) (by decide) (kN_i _) rfl (Nat.le_of_ble_eq_true rfl) rfl rfl ?_
      refine J_iconst (n := 68) dX6_text_67 kI_0 rfl ?_
      refine J_istore_n (i := 2) (n := 69) (lv' := [(0, _), (1, _), (2, _)]) dX6_text_68 rfl (by decide) rfl rfl ?_
      refine loop 3 0 _ (by omega) (by omega) (by rw [gs_neC (by decide), gs_same]; exact hw2) (by rw [gs_same]; exact gsf_s _ _ _) (fun k hk => absurd hk (Nat.not_lt_zero _)) (by rw [gs_neC (by decide), gs_neC (by decide), gs_neC (by decide), gs_same]; exact gsf_s _ _ _) (by rw [gs_neC (by decide), gs_neC (by decide), gs_same]; exact gsf_s _ _ _) (by rw [gs_neC (by decide), gs_neC (by decide), gs_same, gsf_n _ _ (by decide), gs_neC (by decide), gs_neC (by decide), gs_neC (by decide)]) (fun k => by rw [gs_neC (by decide), gs_neC (by decide), gs_neC (by decide), gs_neC (by decide), gs_neC (by decide), gs_neC (by decide)]) (by rw [gs_neC (by decide), gs_neC (by decide), gs_neC (by decide), gs_neC (by decide), gs_same]; exact h91) (by rw [gs_neC (by decide), gs_neC (by decide), gs_neC (by decide), gs_neC (by decide), gs_neC (by decide), gs_neC (by decide)])
    · exact absurd c_31 (by decide +kernel)
