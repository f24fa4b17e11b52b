def fs (y : pE ⊕ (Nat × Nat)) : pE ⊕ Nat := bnd y fun z => .inr z.1
def nmv (y : pE ⊕ (Nat × Nat)) : Int32 := match y with
  | .inl _ => nI 0
  | .inr z => nI z.2
theorem tNum_4 {t : Nat → Nat} {L most i : Nat} (h : (tk t L i).1 = 4) : tNum t L most i = .inl (1, tb t L i) := if_pos h
theorem tNum_n {t : Nat → Nat} {L most i : Nat} (h : ¬ (tk t L i).1 = 4) (h2 : ¬ (tk t L i).1 = 2) : tNum t L most i = .inl (2, tb t L i) := (if_neg h).trans (if_pos h2)
theorem tNum_3 {t : Nat → Nat} {L most i : Nat} (h2 : (tk t L i).1 = 2) (h3 : most < (tk t L i).2.2) : tNum t L most i = .inl (3, tb t L i) := (if_neg (by omega)).trans ((if_neg (Classical.not_not.mpr h2)).trans (if_pos h3))
theorem tNum_s {t : Nat → Nat} {L most i : Nat} (h2 : (tk t L i).1 = 2) (h3 : ¬ most < (tk t L i).2.2) : tNum t L most i = .inr ((tk t L i).2.1, (tk t L i).2.2) := (if_neg (by omega)).trans ((if_neg (Classical.not_not.mpr h2)).trans (if_neg h3))
theorem mtk_4 {v : gs_Ob} {t : Nat → Nat} {L i : Nat} (h : mtk v t L i) (h4 : (tk t L i).1 = 4) : mflt v (1, tb t L i) := by
  unfold mtk at h
  rw [if_pos h4] at h
  exact ⟨h.1, h.2, by show 1 ≤ 1; omega, by show 1 ≤ 5; omega⟩
theorem mtk_n {v : gs_Ob} {t : Nat → Nat} {L i : Nat} (h : mtk v t L i) (h4 : ¬ (tk t L i).1 = 4) : v.2.1 16 = nI 0 ∧ v.2.1 13 = nI (tb t L i) ∧ v.2.1 12 = nI (tk t L i).2.1 ∧ v.2.1 14 = nI (tk t L i).1 ∧ ((tk t L i).1 = 2 → v.2.1 15 = nI (tk t L i).2.2) := by
  unfold mtk at h
  rw [if_neg h4] at h
  exact h
theorem tk_k {t : Nat → Nat} {L i : Nat} (h : i ≤ L) : (tk t L i).1 ≤ 4 := (tkb_le (tb_le t h).2).2.2
theorem nI_ne {a b : Nat} (h : ¬ a = b) (ha : a < 2 ^ 31) (hb : b < 2 ^ 31) : ¬ nI a = nI b := fun q => h ((nI_eq ha hb).mp q)
theorem flt_ne {v : gs_Ob} {e : pE} (h : mflt v e) : ¬ v.2.1 16 = 0 := by
  have := h.2.2.1; have := h.2.2.2
  rw [h.1]; exact nI_ne (b := 0) (by omega) (by omega) (by decide)
set_option maxHeartbeats 4000000 in
set_option maxRecDepth 100000 in
theorem c_M_looked {G : gx_G} {σ : gs_S} {Q : Option Value → gx_Hp → Prop} (d : Nat) {v : gs_Ob} {x : pE ⊕ Nat} {most : Nat} {t : Nat → Nat} {L : Nat} (ht : tOk t L) (hm : most ≤ 20) (hx : mst v t L x) (hq : ∀ v1, mA v v1 [16, 17] → msx v1 L (fs (bnd x (tNum t L most))) → Q (some (.int (nmv (bnd x (tNum t L most))))) (hp G (gs_set σ 7 0 v1))) : gx_K G yX7_looked mX7_looked (d + 2) 0 0 [.ref (gs_a G 7 0 0), .int (nI 0), .int (nI most)] (hp G (gs_set σ 7 0 v)) Q := by
  have hL := ht.1
  refine gx_K.of' (lv := [(0, _), (1, _), (2, _)]) (by decide) rfl (by decide) (Nat.le_of_ble_eq_true rfl) rfl ?_
  cases x with
  | inl e =>
    have hfe : mflt v e := hx
    have hne := flt_ne hfe
    have hy : bnd (Sum.inl e) (tNum t L most) = .inl e := rfl
    refine J_aload_n (i := 0) (n := 1) dX7_looked_0 rfl rfl rfl ?_
    refine T_get (k := 16) (n := 4) wk_X7 dX7_looked_1 wf_X7_79 (by decide) (by decide) rfl rfl ?_
    refine J_if_ne (tgt := 25) (n := 7) dX7_looked_4 (by decide) rfl (fun c_4 => ?_) (fun c_4 => ?_)
    · refine J_aload_n (i := 0) (n := 26) dX7_looked_25 rfl rfl rfl ?_
      refine T_get (k := 16) (n := 29) wk_X7 dX7_looked_26 wf_X7_79 (by decide) (by decide) rfl rfl ?_
      refine J_if_ne (tgt := 49) (n := 32) dX7_looked_29 (by decide) rfl (fun c_29 => ?_) (fun c_29 => ?_)
      · refine J_aload_n (i := 0) (n := 50) dX7_looked_49 rfl rfl rfl ?_
        refine T_get (k := 16) (n := 53) wk_X7 dX7_looked_50 wf_X7_79 (by decide) (by decide) rfl rfl ?_
        refine J_if_ne (tgt := 63) (n := 56) dX7_looked_53 (by decide) rfl (fun c_53 => ?_) (fun c_53 => ?_)
        · refine J_iconst (n := 64) dX7_looked_63 kI_0 rfl ?_
          refine J_iret dX7_looked_64 rfl (kN_i _) ?_
          rw [hy] at hq
          exact hq v (mA.rf _ _) hfe
        · exact absurd c_53 hne
      · exact absurd c_29 hne
    · exact absurd c_4 hne
  | inr i =>
    obtain ⟨hx, hiL⟩ := hx
    have hkk := tk_k (t := t) hiL
    have h99 := tk_num (t := t) (L := L) (i := i)
    by_cases hk4 : (tk t L i).1 = 4
    · have hfe := mtk_4 hx hk4
      have hne := flt_ne hfe
      have hy : bnd (Sum.inr i) (tNum t L most) = .inl (1, tb t L i) := tNum_4 hk4
      refine J_aload_n (i := 0) (n := 1) dX7_looked_0 rfl rfl rfl ?_
      refine T_get (k := 16) (n := 4) wk_X7 dX7_looked_1 wf_X7_79 (by decide) (by decide) rfl rfl ?_
      refine J_if_ne (tgt := 25) (n := 7) dX7_looked_4 (by decide) rfl (fun c_4 => ?_) (fun c_4 => ?_)
      · refine J_aload_n (i := 0) (n := 26) dX7_looked_25 rfl rfl rfl ?_
        refine T_get (k := 16) (n := 29) wk_X7 dX7_looked_26 wf_X7_79 (by decide) (by decide) rfl rfl ?_
        refine J_if_ne (tgt := 49) (n := 32) dX7_looked_29 (by decide) rfl (fun c_29 => ?_) (fun c_29 => ?_)
        · refine J_aload_n (i := 0) (n := 50) dX7_looked_49 rfl rfl rfl ?_
          refine T_get (k := 16) (n := 53) wk_X7 dX7_looked_50 wf_X7_79 (by decide) (by decide) rfl rfl ?_
          refine J_if_ne (tgt := 63) (n := 56) dX7_looked_53 (by decide) rfl (fun c_53 => ?_) (fun c_53 => ?_)
          · refine J_iconst (n := 64) dX7_looked_63 kI_0 rfl ?_
            refine J_iret dX7_looked_64 rfl (kN_i _) ?_
            rw [hy] at hq
            exact hq v (mA.rf _ _) hfe
          · exact absurd c_53 hne
        · exact absurd c_29 hne
      · exact absurd c_4 hne
    · obtain ⟨h16, h13, h12, h14, h15⟩ := mtk_n hx hk4
      by_cases hk2 : (tk t L i).1 = 2
      · have h15 := h15 hk2
        have hz : decide (¬ nI (tk t L i).2.2 < nI 0) = true := decide_eq_true (nI_nlt (Nat.zero_le _) (by omega))
        by_cases hmo : most < (tk t L i).2.2
        · have hy : bnd (Sum.inr i) (tNum t L most) = .inl (3, tb t L i) := tNum_3 hk2 hmo
          have hin : (decide (¬ nI (tk t L i).2.2 < nI 0) && decide (¬ nI most < nI (tk t L i).2.2)) = false := by rw [hz, decide_eq_false (Classical.not_not.mpr (nI_lt hmo (by omega)))]; rfl
          refine J_aload_n (i := 0) (n := 1) dX7_looked_0 rfl rfl rfl ?_
          refine T_get (k := 16) (n := 4) wk_X7 dX7_looked_1 wf_X7_79 (by decide) (by decide) rfl rfl ?_
          refine J_if_ne (tgt := 25) (n := 7) dX7_looked_4 (by decide) rfl (fun c_4 => ?_) (fun c_4 => ?_)
          · exact absurd (show v.2.1 16 = 0 from h16) c_4
          · refine J_aload_n (i := 0) (n := 8) dX7_looked_7 rfl rfl rfl ?_
            refine J_aload_n (i := 0) (n := 9) dX7_looked_8 rfl rfl rfl ?_
            refine T_get (k := 14) (n := 12) wk_X7 dX7_looked_9 wf_X7_103 (by decide) (by decide) rfl rfl ?_
            rw [h14, hk2]
            refine J_iconst (n := 13) dX7_looked_12 kI_2 rfl ?_
            refine J_icmp_ne (tgt := 20) (n := 16) dX7_looked_13 (by decide) rfl (fun c_13 => ?_) (fun c_13 => ?_)
            · exact absurd rfl c_13
            · refine J_iconst (n := 17) dX7_looked_16 kI_1 rfl ?_
              refine J_goto (tgt := 21) dX7_looked_17 (by decide) ?_
              refine J_iconst (n := 22) dX7_looked_21 kI_2 rfl ?_
              refine J_callVv (n := 25) wS_X7_requires (c_M_requires (d + 1) true (nI 2) ⟨rfl, rfl⟩) dX7_looked_22 wm_X7_117 ⟨wM_X7_requires, wV_X7_requires⟩ rfl (T_recv (by decide) (by decide)) rfl rfl (Nat.le_of_ble_eq_true rfl) rfl ?_
              rw [rqv_t]
              refine J_aload_n (i := 0) (n := 26) dX7_looked_25 rfl rfl rfl ?_
              refine T_get (k := 16) (n := 29) wk_X7 dX7_looked_26 wf_X7_79 (by decide) (by decide) rfl rfl ?_
              refine J_if_ne (tgt := 49) (n := 32) dX7_looked_29 (by decide) rfl (fun c_29 => ?_) (fun c_29 => ?_)
              · exact absurd (show v.2.1 16 = 0 from h16) c_29
              · refine J_aload_n (i := 0) (n := 33) dX7_looked_32 rfl rfl rfl ?_
                refine J_aload_n (i := 0) (n := 34) dX7_looked_33 rfl rfl rfl ?_
                refine T_get (k := 15) (n := 37) wk_X7 dX7_looked_34 wf_X7_114 (by decide) (by decide) rfl rfl ?_
                rw [h15]
                refine J_i2l (n := 38) dX7_looked_37 rfl ?_
                refine J_iload_n (i := 1) (n := 39) dX7_looked_38 rfl rfl rfl ?_
                
                refine J_i2l (n := 40) dX7_looked_39 rfl ?_
                rw [nI_l (n := 0) (by decide)]
                refine J_iload_n (i := 2) (n := 41) dX7_looked_40 rfl rfl rfl ?_
                refine J_i2l (n := 42) dX7_looked_41 rfl ?_
                rw [nI_l (n := most) (by omega)]
                refine J_callSr (n := 45) wS_X7_in (c_M_inL (d + 1) (nI (tk t L i).2.2) 0 most (by decide) (by omega) ⟨rfl, rfl⟩) dX7_looked_42 wm_X7_72 wT_X7_in rfl rfl (Nat.le_of_ble_eq_true rfl) rfl ?_
                refine J_iconst (n := 46) dX7_looked_45 kI_3 rfl ?_
                refine J_callVv (n := 49) wS_X7_requires (c_M_requires (d + 1) (decide (¬ nI (tk t L i).2.2 < nI 0) && decide (¬ nI most < nI (tk t L i).2.2)) (nI 3) ⟨rfl, rfl⟩) dX7_looked_46 wm_X7_117 ⟨wM_X7_requires, wV_X7_requires⟩ rfl (T_recv (by decide) (by decide)) rfl rfl (Nat.le_of_ble_eq_true rfl) rfl ?_
                rw [hin]
                rw [rqv_n _ (show v.2.1 16 = 0 from h16), h13]
                refine J_aload_n (i := 0) (n := 50) dX7_looked_49 rfl rfl rfl ?_
                refine T_get (k := 16) (n := 53) wk_X7 dX7_looked_50 wf_X7_79 (by decide) (by decide) rfl rfl ?_
                rw [gsf_n _ _ (by decide), gsf_s]
                refine J_if_ne (tgt := 63) (n := 56) dX7_looked_53 (by decide) rfl (fun c_53 => ?_) (fun c_53 => ?_)
                · refine J_iconst (n := 64) dX7_looked_63 kI_0 rfl ?_
                  refine J_iret dX7_looked_64 rfl (kN_i _) ?_
                  rw [hy] at hq
                  exact hq _ (((mA.rf _ _).f _ (by decide)).f _ (by decide)) ⟨by rw [gsf_n _ _ (by decide)]; exact gsf_s _ _ _, gsf_s _ _ _, by show 1 ≤ 3; omega, by show 3 ≤ 5; omega⟩
                · exact absurd c_53 (by decide +kernel)
        · have hy : bnd (Sum.inr i) (tNum t L most) = .inr ((tk t L i).2.1, (tk t L i).2.2) := tNum_s hk2 hmo
          have hin : (decide (¬ nI (tk t L i).2.2 < nI 0) && decide (¬ nI most < nI (tk t L i).2.2)) = true := by rw [hz, decide_eq_true (nI_nlt (by omega) (by omega))]; rfl
          refine J_aload_n (i := 0) (n := 1) dX7_looked_0 rfl rfl rfl ?_
          refine T_get (k := 16) (n := 4) wk_X7 dX7_looked_1 wf_X7_79 (by decide) (by decide) rfl rfl ?_
          refine J_if_ne (tgt := 25) (n := 7) dX7_looked_4 (by decide) rfl (fun c_4 => ?_) (fun c_4 => ?_)
          · exact absurd (show v.2.1 16 = 0 from h16) c_4
          · refine J_aload_n (i := 0) (n := 8) dX7_looked_7 rfl rfl rfl ?_
            refine J_aload_n (i := 0) (n := 9) dX7_looked_8 rfl rfl rfl ?_
            refine T_get (k := 14) (n := 12) wk_X7 dX7_looked_9 wf_X7_103 (by decide) (by decide) rfl rfl ?_
            rw [h14, hk2]
            refine J_iconst (n := 13) dX7_looked_12 kI_2 rfl ?_
            refine J_icmp_ne (tgt := 20) (n := 16) dX7_looked_13 (by decide) rfl (fun c_13 => ?_) (fun c_13 => ?_)
            · exact absurd rfl c_13
            · refine J_iconst (n := 17) dX7_looked_16 kI_1 rfl ?_
              refine J_goto (tgt := 21) dX7_looked_17 (by decide) ?_
              refine J_iconst (n := 22) dX7_looked_21 kI_2 rfl ?_
              refine J_callVv (n := 25) wS_X7_requires (c_M_requires (d + 1) true (nI 2) ⟨rfl, rfl⟩) dX7_looked_22 wm_X7_117 ⟨wM_X7_requires, wV_X7_requires⟩ rfl (T_recv (by decide) (by decide)) rfl rfl (Nat.le_of_ble_eq_true rfl) rfl ?_
              rw [rqv_t]
              refine J_aload_n (i := 0) (n := 26) dX7_looked_25 rfl rfl rfl ?_
              refine T_get (k := 16) (n := 29) wk_X7 dX7_looked_26 wf_X7_79 (by decide) (by decide) rfl rfl ?_
              refine J_if_ne (tgt := 49) (n := 32) dX7_looked_29 (by decide) rfl (fun c_29 => ?_) (fun c_29 => ?_)
              · exact absurd (show v.2.1 16 = 0 from h16) c_29
              · refine J_aload_n (i := 0) (n := 33) dX7_looked_32 rfl rfl rfl ?_
                refine J_aload_n (i := 0) (n := 34) dX7_looked_33 rfl rfl rfl ?_
                refine T_get (k := 15) (n := 37) wk_X7 dX7_looked_34 wf_X7_114 (by decide) (by decide) rfl rfl ?_
                rw [h15]
                refine J_i2l (n := 38) dX7_looked_37 rfl ?_
                refine J_iload_n (i := 1) (n := 39) dX7_looked_38 rfl rfl rfl ?_
                
                refine J_i2l (n := 40) dX7_looked_39 rfl ?_
                rw [nI_l (n := 0) (by decide)]
                refine J_iload_n (i := 2) (n := 41) dX7_looked_40 rfl rfl rfl ?_
                refine J_i2l (n := 42) dX7_looked_41 rfl ?_
                rw [nI_l (n := most) (by omega)]
                refine J_callSr (n := 45) wS_X7_in (c_M_inL (d + 1) (nI (tk t L i).2.2) 0 most (by decide) (by omega) ⟨rfl, rfl⟩) dX7_looked_42 wm_X7_72 wT_X7_in rfl rfl (Nat.le_of_ble_eq_true rfl) rfl ?_
                refine J_iconst (n := 46) dX7_looked_45 kI_3 rfl ?_
                refine J_callVv (n := 49) wS_X7_requires (c_M_requires (d + 1) (decide (¬ nI (tk t L i).2.2 < nI 0) && decide (¬ nI most < nI (tk t L i).2.2)) (nI 3) ⟨rfl, rfl⟩) dX7_looked_46 wm_X7_117 ⟨wM_X7_requires, wV_X7_requires⟩ rfl (T_recv (by decide) (by decide)) rfl rfl (Nat.le_of_ble_eq_true rfl) rfl ?_
                rw [hin]
                rw [rqv_t]
                refine J_aload_n (i := 0) (n := 50) dX7_looked_49 rfl rfl rfl ?_
                refine T_get (k := 16) (n := 53) wk_X7 dX7_looked_50 wf_X7_79 (by decide) (by decide) rfl rfl ?_
                
                refine J_if_ne (tgt := 63) (n := 56) dX7_looked_53 (by decide) rfl (fun c_53 => ?_) (fun c_53 => ?_)
                · exact absurd (show v.2.1 16 = 0 from h16) c_53
                · refine J_aload_n (i := 0) (n := 57) dX7_looked_56 rfl rfl rfl ?_
                  refine T_get (k := 15) (n := 60) wk_X7 dX7_looked_57 wf_X7_114 (by decide) (by decide) rfl rfl ?_
                  rw [h15]
                  refine J_goto (tgt := 64) dX7_looked_60 (by decide) ?_
                  refine J_iret dX7_looked_64 rfl (kN_i _) ?_
                  rw [hy] at hq
                  exact hq v (mA.rf _ _) ⟨h16, h12, (tk_le hiL hk4).2⟩
      · have hy : bnd (Sum.inr i) (tNum t L most) = .inl (2, tb t L i) := tNum_n hk4 hk2
        refine J_aload_n (i := 0) (n := 1) dX7_looked_0 rfl rfl rfl ?_
        refine T_get (k := 16) (n := 4) wk_X7 dX7_looked_1 wf_X7_79 (by decide) (by decide) rfl rfl ?_
        refine J_if_ne (tgt := 25) (n := 7) dX7_looked_4 (by decide) rfl (fun c_4 => ?_) (fun c_4 => ?_)
        · exact absurd (show v.2.1 16 = 0 from h16) c_4
        · refine J_aload_n (i := 0) (n := 8) dX7_looked_7 rfl rfl rfl ?_
          refine J_aload_n (i := 0) (n := 9) dX7_looked_8 rfl rfl rfl ?_
          refine T_get (k := 14) (n := 12) wk_X7 dX7_looked_9 wf_X7_103 (by decide) (by decide) rfl rfl ?_
          rw [h14]
          refine J_iconst (n := 13) dX7_looked_12 kI_2 rfl ?_
          refine J_icmp_ne (tgt := 20) (n := 16) dX7_looked_13 (by decide) rfl (fun c_13 => ?_) (fun c_13 => ?_)
          · refine J_iconst (n := 21) dX7_looked_20 kI_0 rfl ?_
            refine J_iconst (n := 22) dX7_looked_21 kI_2 rfl ?_
            refine J_callVv (n := 25) wS_X7_requires (c_M_requires (d + 1) false (nI 2) ⟨rfl, rfl⟩) dX7_looked_22 wm_X7_117 ⟨wM_X7_requires, wV_X7_requires⟩ rfl (T_recv (by decide) (by decide)) rfl rfl (Nat.le_of_ble_eq_true rfl) rfl ?_
            rw [rqv_n _ (show v.2.1 16 = 0 from h16), h13]
            refine J_aload_n (i := 0) (n := 26) dX7_looked_25 rfl rfl rfl ?_
            refine T_get (k := 16) (n := 29) wk_X7 dX7_looked_26 wf_X7_79 (by decide) (by decide) rfl rfl ?_
            rw [gsf_n _ _ (by decide), gsf_s]
            refine J_if_ne (tgt := 49) (n := 32) dX7_looked_29 (by decide) rfl (fun c_29 => ?_) (fun c_29 => ?_)
            · refine J_aload_n (i := 0) (n := 50) dX7_looked_49 rfl rfl rfl ?_
              refine T_get (k := 16) (n := 53) wk_X7 dX7_looked_50 wf_X7_79 (by decide) (by decide) rfl rfl ?_
              rw [gsf_n _ _ (by decide), gsf_s]
              refine J_if_ne (tgt := 63) (n := 56) dX7_looked_53 (by decide) rfl (fun c_53 => ?_) (fun c_53 => ?_)
              · refine J_iconst (n := 64) dX7_looked_63 kI_0 rfl ?_
                refine J_iret dX7_looked_64 rfl (kN_i _) ?_
                rw [hy] at hq
                exact hq _ (((mA.rf _ _).f _ (by decide)).f _ (by decide)) ⟨by rw [gsf_n _ _ (by decide)]; exact gsf_s _ _ _, gsf_s _ _ _, by show 1 ≤ 2; omega, by show 2 ≤ 5; omega⟩
              · exact absurd c_53 (by decide +kernel)
            · exact absurd c_29 (by decide +kernel)
          · exact absurd c_13 (nI_ne hk2 (by omega) (by decide))

set_option maxHeartbeats 4000000 in
set_option maxRecDepth 100000 in
theorem c_M_readNumber {G : gx_G} {σ : gs_S} {Q : Option Value → gx_Hp → Prop} (d : Nat) {v : gs_Ob} {x : pE ⊕ Nat} {most : Nat} {t : Nat → Nat} {L : Nat} (ht : tOk t L) (hm : most ≤ 20) (htp : mtp v t L) (hx : mst v t L x) (hq : ∀ v1, mA v v1 [12, 13, 14, 15, 16, 17] → mst v1 t L (fs (bnd x (tNum t L most))) → Q (some (.int (nmv (bnd x (tNum t L most))))) (hp G (gs_set σ 7 0 v1))) : gx_K G yX7_readNumber mX7_readNumber (d + 3) 0 0 [.ref (gs_a G 7 0 0), .int (nI 0), .int (nI most)] (hp G (gs_set σ 7 0 v)) Q := by
  refine gx_K.of' (lv := [(0, _), (1, _), (2, _)]) (by decide) rfl (by decide) (Nat.le_of_ble_eq_true rfl) rfl ?_
  refine J_aload_n (i := 0) (n := 1) dX7_readNumber_0 rfl rfl rfl ?_
  refine J_iload_n (i := 1) (n := 2) dX7_readNumber_1 rfl rfl rfl ?_
  refine J_iload_n (i := 2) (n := 3) dX7_readNumber_2 rfl rfl rfl ?_
  refine J_callVx (n := 6) wS_X7_looked (c_M_looked (Q := fun r h => r = some (.int (nmv (bnd x (tNum t L most)))) ∧ ∃ v1, mA v v1 [16, 17] ∧ msx v1 L (fs (bnd x (tNum t L most))) ∧ h = hp G (gs_set σ 7 0 v1)) d ht hm hx (fun v1 h1 h2 => ⟨rfl, v1, h1, h2, rfl⟩)) dX7_readNumber_3 wm_X7_121 ⟨wM_X7_looked, wV_X7_looked⟩ rfl (T_recv (by decide) (by decide)) rfl rfl (Nat.le_of_ble_eq_true rfl) rfl (fun r h1 hq1 => ?_)
  obtain ⟨rfl, v1, hA1, hx1, rfl⟩ := hq1
  refine J_istore_n (i := 3) (n := 7) (lv' := [(0, _), (1, _), (2, _), (3, _)]) dX7_readNumber_6 rfl (by decide) rfl rfl ?_
  refine J_aload_n (i := 0) (n := 8) dX7_readNumber_7 rfl rfl rfl ?_
  refine J_callVx (n := 11) wS_X7_reads (c_M_reads (Q := fun r h => r = none ∧ ∃ v2, mA v1 v2 [12, 13, 14, 15, 16, 17] ∧ mst v2 t L (fs (bnd x (tNum t L most))) ∧ h = hp G (gs_set σ 7 0 v2)) d ht (hA1.tp (by decide) htp) hx1 (fun v2 h1 h2 => ⟨rfl, v2, h1, h2, rfl⟩)) dX7_readNumber_8 wm_X7_125 ⟨wM_X7_reads, wV_X7_reads⟩ rfl (T_recv (by decide) (by decide)) rfl rfl (Nat.le_of_ble_eq_true rfl) rfl (fun r h1 hq1 => ?_)
  obtain ⟨rfl, v2, hA2, hx2, rfl⟩ := hq1
  refine J_iload_n (i := 3) (n := 12) dX7_readNumber_11 rfl rfl rfl ?_
  refine J_iret dX7_readNumber_12 rfl (kN_i _) ?_
  exact hq v2 ((hA1.sub (by decide)).tr hA2) hx2

