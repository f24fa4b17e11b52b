set_option maxHeartbeats 4000000 in
set_option maxRecDepth 100000 in
theorem c_T_takesNumber {G : gx_G} {σ : gs_S} {Q : Option Value → gx_Hp → Prop} {v : gs_Ob} (d : Nat) {t : Nat → Nat} {L : Nat} (ht : tOk t L) (htp : ctp σ t L) {i most : Nat} (hm : most ≤ 20) (hi : i ≤ L) (h2 : v.2.1 2 = nI i) (hqS : ∀ x, tNum t L most i = .inr x → ∀ v1, mA v v1 [2, 3, 4, 7, 8] → v1.2.1 8 = v.2.1 8 → v1.2.1 2 = nI x.1 → v1.2.1 4 = nI x.2 → Q (some (.int (nI 1))) (hp G (gs_set σ 4 0 v1))) (hqF : ∀ e, tNum t L most i = .inl e → ∀ v1, mA v v1 [2, 3, 4, 7, 8] → cflt v1 e → Q (some (.int (nI 0))) (hp G (gs_set σ 4 0 v1))) : gx_K G yX4_takesNumber mX4_takesNumber (d + 4) 0 0 [.ref (gs_a G 4 0 0), .int (nI most)] (hp G (gs_set σ 4 0 v)) Q := by
  refine gx_K.of' (lv := [(0, _), (1, _)]) (by decide) rfl (by decide) (Nat.le_of_ble_eq_true rfl) rfl ?_
  have hkk := tk_k (t := t) hi
  have h99 := tk_num (t := t) (L := L) (i := i)
  by_cases hk4 : (tk t L i).1 = 4
  · refine J_aload_n (i := 0) (n := 1) dX4_takesNumber_0 rfl rfl rfl ?_
    refine J_callVx (n := 4) wS_X4_readsToken (c_T_readsToken (Q := fun r h => r = some (.int (nI 0)) ∧ ∃ v1, mA v v1 [2, 3, 4, 7, 8] ∧ cflt v1 (1, tb t L i) ∧ h = hp G (gs_set σ 4 0 v1)) (d) ht htp (i := i) hi h2 (fun q => absurd hk4 q) (fun _ v1 a1 a2 => ⟨rfl, v1, a1, a2, rfl⟩)) dX4_takesNumber_1 wm_X4_41 ⟨wM_X4_readsToken, wV_X4_readsToken⟩ rfl (T_recv (by decide) (by decide)) rfl rfl (Nat.le_of_ble_eq_true rfl) rfl (fun r h1 hq1 => ?_)
    obtain ⟨rfl, v1, hA1, hf1, rfl⟩ := hq1
    refine J_if_ne (tgt := 9) (n := 7) dX4_takesNumber_4 (by decide) rfl (fun c_4 => ?_) (fun c_4 => ?_)
    · exact absurd rfl c_4
    · refine J_iconst (n := 8) dX4_takesNumber_7 kI_0 rfl ?_
      refine J_iret dX4_takesNumber_8 rfl (by first | exact kN_0 | exact kN_1) ?_
      exact hqF _ (tNum_4 hk4) v1 hA1 hf1
  · refine J_aload_n (i := 0) (n := 1) dX4_takesNumber_0 rfl rfl rfl ?_
    refine J_callVx (n := 4) wS_X4_readsToken (c_T_readsToken (Q := fun r h => r = some (.int (nI 1)) ∧ ∃ v1, mA v v1 [2, 3, 4, 7, 8] ∧ v1.2.1 8 = v.2.1 8 ∧ ctk v1 t L i ∧ h = hp G (gs_set σ 4 0 v1)) (d) ht htp (i := i) hi h2 (fun _ v1 a1 a2 a3 => ⟨rfl, v1, a1, a2, a3, rfl⟩) (fun q => absurd q hk4)) dX4_takesNumber_1 wm_X4_41 ⟨wM_X4_readsToken, wV_X4_readsToken⟩ rfl (T_recv (by decide) (by decide)) rfl rfl (Nat.le_of_ble_eq_true rfl) rfl (fun r h1 hq1 => ?_)
    obtain ⟨rfl, v1, hA1, h81, ⟨h71, h21, h31, h41⟩, rfl⟩ := hq1
    refine J_if_ne (tgt := 9) (n := 7) dX4_takesNumber_4 (by decide) rfl (fun c_4 => ?_) (fun c_4 => ?_)
    · refine J_aload_n (i := 0) (n := 10) dX4_takesNumber_9 rfl rfl rfl ?_
      refine T_get (k := 3) (n := 13) wk_X4 dX4_takesNumber_10 wf_X4_45 (by decide) (by decide) rfl rfl ?_
      rw [h31]
      refine J_iconst (n := 14) dX4_takesNumber_13 kI_2 rfl ?_
      refine J_icmp_eq (tgt := 23) (n := 17) dX4_takesNumber_14 (by decide) rfl (fun c_14 => ?_) (fun c_14 => ?_)
      · rw [nI_eq (by omega) (by decide)] at c_14
        have h41 := h41 c_14
        refine J_aload_n (i := 0) (n := 24) dX4_takesNumber_23 rfl rfl rfl ?_
        refine T_get (k := 4) (n := 27) wk_X4 dX4_takesNumber_24 wf_X4_88 (by decide) (by decide) rfl rfl ?_
        rw [h41]
        refine J_iload_n (i := 1) (n := 28) dX4_takesNumber_27 rfl rfl rfl ?_
        refine J_icmp_le (tgt := 39) (n := 31) dX4_takesNumber_28 (by decide) rfl (fun c_28 => ?_) (fun c_28 => ?_)
        · rw [nI_leI (by omega) (by omega)] at c_28
          refine J_iconst (n := 40) dX4_takesNumber_39 kI_1 rfl ?_
          refine J_goto (tgt := 44) dX4_takesNumber_40 (by decide) ?_
          refine J_iret dX4_takesNumber_44 rfl (by first | exact kN_0 | exact kN_1) ?_
          exact hqS _ (tNum_s c_14 (by omega)) v1 hA1 h81 h21 h41
        · rw [nI_leI (by omega) (by omega)] at c_28
          refine J_aload_n (i := 0) (n := 32) dX4_takesNumber_31 rfl rfl rfl ?_
          refine J_iconst (n := 33) dX4_takesNumber_32 kI_3 rfl ?_
          refine J_callVr (n := 36) wS_X4_refuses (c_T_refuses (d + 3) _ ⟨rfl, rfl⟩) dX4_takesNumber_33 wm_X4_55 ⟨wM_X4_refuses, wV_X4_refuses⟩ rfl (T_recv (by decide) (by decide)) rfl rfl (Nat.le_of_ble_eq_true rfl) rfl ?_
          refine J_if_eq (tgt := 43) (n := 39) dX4_takesNumber_36 (by decide) rfl (fun c_36 => ?_) (fun c_36 => ?_)
          · refine J_iconst (n := 44) dX4_takesNumber_43 kI_0 rfl ?_
            refine J_iret dX4_takesNumber_44 rfl (by first | exact kN_0 | exact kN_1) ?_
            exact hqF _ (tNum_3 c_14 (by omega)) _ (hA1.f _ (by decide)) ⟨gsf_s _ _ _, by rw [gsf_n _ _ (by decide)]; exact h71⟩
          · exact absurd rfl c_36
      · rw [nI_eq (by omega) (by decide)] at c_14
        refine J_aload_n (i := 0) (n := 18) dX4_takesNumber_17 rfl rfl rfl ?_
        refine J_iconst (n := 19) dX4_takesNumber_18 kI_2 rfl ?_
        refine J_callVr (n := 22) wS_X4_refuses (c_T_refuses (d + 3) _ ⟨rfl, rfl⟩) dX4_takesNumber_19 wm_X4_55 ⟨wM_X4_refuses, wV_X4_refuses⟩ rfl (T_recv (by decide) (by decide)) rfl rfl (Nat.le_of_ble_eq_true rfl) rfl ?_
        refine J_iret dX4_takesNumber_22 rfl (by first | exact kN_0 | exact kN_1) ?_
        exact hqF _ (tNum_n hk4 c_14) _ (hA1.f _ (by decide)) ⟨gsf_s _ _ _, by rw [gsf_n _ _ (by decide)]; exact h71⟩
    · exact absurd c_4 (by decide +kernel)

set_option maxHeartbeats 4000000 in
set_option maxRecDepth 100000 in
theorem c_T_takesMark {G : gx_G} {σ : gs_S} {Q : Option Value → gx_Hp → Prop} {v : gs_Ob} (d : Nat) {t : Nat → Nat} {L : Nat} (ht : tOk t L) (htp : ctp σ t L) {i : Nat} (hi : i ≤ L) (h2 : v.2.1 2 = nI i) (hqS : ∀ n, tMark t L i = .inr n → ∀ v1, mA v v1 [2, 3, 4, 7, 8] → v1.2.1 8 = v.2.1 8 → v1.2.1 2 = nI n → Q (some (.int (nI 1))) (hp G (gs_set σ 4 0 v1))) (hqF : ∀ e, tMark t L i = .inl e → ∀ v1, mA v v1 [2, 3, 4, 7, 8] → cflt v1 e → Q (some (.int (nI 0))) (hp G (gs_set σ 4 0 v1))) : gx_K G yX4_takesMark mX4_takesMark (d + 4) 0 0 [.ref (gs_a G 4 0 0)] (hp G (gs_set σ 4 0 v)) Q := by
  refine gx_K.of' (lv := [(0, _)]) (by decide) rfl (by decide) (Nat.le_of_ble_eq_true rfl) rfl ?_
  have hkk := tk_k (t := t) hi
  by_cases hk4 : (tk t L i).1 = 4
  · refine J_aload_n (i := 0) (n := 1) dX4_takesMark_0 rfl rfl rfl ?_
    refine J_callVx (n := 4) wS_X4_readsToken (c_T_readsToken (Q := fun r h => r = some (.int (nI 0)) ∧ ∃ v1, mA v v1 [2, 3, 4, 7, 8] ∧ cflt v1 (1, tb t L i) ∧ h = hp G (gs_set σ 4 0 v1)) (d) ht htp (i := i) hi h2 (fun q => absurd hk4 q) (fun _ v1 a1 a2 => ⟨rfl, v1, a1, a2, rfl⟩)) dX4_takesMark_1 wm_X4_41 ⟨wM_X4_readsToken, wV_X4_readsToken⟩ rfl (T_recv (by decide) (by decide)) rfl rfl (Nat.le_of_ble_eq_true rfl) rfl (fun r h1 hq1 => ?_)
    obtain ⟨rfl, v1, hA1, hf1, rfl⟩ := hq1
    refine J_if_eq (tgt := 27) (n := 7) dX4_takesMark_4 (by decide) rfl (fun c_4 => ?_) (fun c_4 => ?_)
    · refine J_iconst (n := 28) dX4_takesMark_27 kI_0 rfl ?_
      refine J_iret dX4_takesMark_28 rfl (by first | exact kN_0 | exact kN_1) ?_
      exact hqF _ (tMark_4 hk4) v1 hA1 hf1
    · exact absurd rfl c_4
  · refine J_aload_n (i := 0) (n := 1) dX4_takesMark_0 rfl rfl rfl ?_
    refine J_callVx (n := 4) wS_X4_readsToken (c_T_readsToken (Q := fun r h => r = some (.int (nI 1)) ∧ ∃ v1, mA v v1 [2, 3, 4, 7, 8] ∧ v1.2.1 8 = v.2.1 8 ∧ ctk v1 t L i ∧ h = hp G (gs_set σ 4 0 v1)) (d) ht htp (i := i) hi h2 (fun _ v1 a1 a2 a3 => ⟨rfl, v1, a1, a2, a3, rfl⟩) (fun q => absurd q hk4)) dX4_takesMark_1 wm_X4_41 ⟨wM_X4_readsToken, wV_X4_readsToken⟩ rfl (T_recv (by decide) (by decide)) rfl rfl (Nat.le_of_ble_eq_true rfl) rfl (fun r h1 hq1 => ?_)
    obtain ⟨rfl, v1, hA1, h81, ⟨h71, h21, h31, h41⟩, rfl⟩ := hq1
    refine J_if_eq (tgt := 27) (n := 7) dX4_takesMark_4 (by decide) rfl (fun c_4 => ?_) (fun c_4 => ?_)
    · exact absurd c_4 (by decide +kernel)
    · refine J_aload_n (i := 0) (n := 8) dX4_takesMark_7 rfl rfl rfl ?_
      refine T_get (k := 3) (n := 11) wk_X4 dX4_takesMark_8 wf_X4_45 (by decide) (by decide) rfl rfl ?_
      rw [h31]
      refine J_iconst (n := 12) dX4_takesMark_11 kI_3 rfl ?_
      refine J_icmp_eq (tgt := 23) (n := 15) dX4_takesMark_12 (by decide) rfl (fun c_12 => ?_) (fun c_12 => ?_)
      · rw [nI_eq (by omega) (by decide)] at c_12
        refine J_iconst (n := 24) dX4_takesMark_23 kI_1 rfl ?_
        refine J_goto (tgt := 28) dX4_takesMark_24 (by decide) ?_
        refine J_iret dX4_takesMark_28 rfl (by first | exact kN_0 | exact kN_1) ?_
        exact hqS _ (tMark_s c_12) v1 hA1 h81 h21
      · rw [nI_eq (by omega) (by decide)] at c_12
        refine J_aload_n (i := 0) (n := 16) dX4_takesMark_15 rfl rfl rfl ?_
        refine J_iconst (n := 17) dX4_takesMark_16 kI_2 rfl ?_
        refine J_callVr (n := 20) wS_X4_refuses (c_T_refuses (d + 3) _ ⟨rfl, rfl⟩) dX4_takesMark_17 wm_X4_55 ⟨wM_X4_refuses, wV_X4_refuses⟩ rfl (T_recv (by decide) (by decide)) rfl rfl (Nat.le_of_ble_eq_true rfl) rfl ?_
        refine J_if_eq (tgt := 27) (n := 23) dX4_takesMark_20 (by decide) rfl (fun c_20 => ?_) (fun c_20 => ?_)
        · refine J_iconst (n := 28) dX4_takesMark_27 kI_0 rfl ?_
          refine J_iret dX4_takesMark_28 rfl (by first | exact kN_0 | exact kN_1) ?_
          exact hqF _ (tMark_n hk4 c_12) _ (hA1.f _ (by decide)) ⟨gsf_s _ _ _, by rw [gsf_n _ _ (by decide)]; exact h71⟩
        · exact absurd rfl c_20

theorem gs_cm (σ : gs_S) (t v : gs_Ob) : gs_set (gs_set σ 5 13 t) 4 0 v = gs_set (gs_set σ 4 0 v) 5 13 t := by
  funext c i
  by_cases h4 : c = 4
  · subst h4
    by_cases hi : i = 0
    · subst hi; rw [gs_same, gs_neC (by decide), gs_same]
    · rw [gs_neI hi, gs_neC (by decide), gs_neC (by decide), gs_neI hi]
  · rw [gs_neC h4]
    by_cases h5 : c = 5
    · subst h5
      by_cases hi : i = 13
      · subst hi; rw [gs_same, gs_same]
      · rw [gs_neI hi, gs_neI hi, gs_neC h4]
    · rw [gs_neC h5, gs_neC h5, gs_neC h4]
theorem ctp.w {σ : gs_S} {t : Nat → Nat} {L : Nat} (h : ctp σ t L) (w : gs_Ob) : ctp (gs_set σ 5 13 w) t L := by
  unfold ctp
  rw [gs_neC (by decide)]; exact h
def tRow (t : Nat → Nat) (L most N i : Nat) (r : Nat → Nat) : pE ⊕ (Nat × Nat × (Nat → Nat)) := bnd (tNums t L most N (N + 1) i 0 r) fun x => bnd (tMark t L x.1) fun n1 => .inr (n1, x.2.1, x.2.2)
def bmr (t : Nat → Nat) (L : Nat) (y : pE ⊕ (Nat × Nat × (Nat → Nat))) : pE ⊕ (Nat × Nat × (Nat → Nat)) := bnd y fun x => bnd (tMark t L x.1) fun n1 => .inr (n1, x.2.1, x.2.2)
set_option maxHeartbeats 4000000 in
set_option maxRecDepth 100000 in
theorem c_T_takesRowFame {G : gx_G} {σ : gs_S} {Q : Option Value → gx_Hp → Prop} {v : gs_Ob} {t0 : gs_Ob} (d : Nat) {t : Nat → Nat} {L : Nat} (ht : tOk t L) (htp : ctp σ t L) {i : Nat} {r0 : Nat → Nat} (hi : i ≤ L) (h2 : v.2.1 2 = nI i) (h0 : (∀ q, q < 12 → t0.1 0 q = nI (r0 q))) (hqS : ∀ x, (tRow t L 9 12 i r0) = .inr x → ∀ v1 t1, mA v v1 [2, 3, 4, 6, 7, 8] → v1.2.1 8 = v.2.1 8 → v1.2.1 2 = nI x.1 → v1.2.1 6 = nI x.2.1 → (∀ q, q < 12 → t1.1 0 q = nI (x.2.2 q)) → ((∀ q, q ≠ 0 → t1.1 q = t0.1 q) ∧ t1.2 = t0.2) → Q (some (.int (nI 1))) (hp G (gs_set (gs_set σ 5 13 t1) 4 0 v1))) (hqF : ∀ e, (tRow t L 9 12 i r0) = .inl e → ∀ v1 t1, mA v v1 [2, 3, 4, 6, 7, 8] → cflt v1 e → Q (some (.int (nI 0))) (hp G (gs_set (gs_set σ 5 13 t1) 4 0 v1))) : gx_K G yX4_takesRow mX4_takesRow (d + 4) 0 0 [.ref (gs_a G 4 0 0), .ref (gs_a G 5 13 1), .int (nI 9)] (hp G (gs_set (gs_set σ 5 13 t0) 4 0 v)) Q := by
  refine gx_K.of' (lv := [(0, _), (1, _), (2, _)]) (by decide) rfl (by decide) (Nat.le_of_ble_eq_true rfl) rfl ?_
  have hL := ht.1
  have loop : ∀ m i1 j r v1 t1, m + j = 13 → j ≤ 12 → i1 ≤ L → mA v v1 [2, 3, 4, 6, 7, 8] → v1.2.1 8 = v.2.1 8 → v1.2.1 2 = nI i1 → v1.2.1 6 = nI j → (∀ q, q < 12 → t1.1 0 q = nI (r q)) → ((∀ q, q ≠ 0 → t1.1 q = t0.1 q) ∧ t1.2 = t0.2) → (tRow t L 9 12 i r0) = bmr t L (tNums t L 9 12 m i1 j r) → gx_J G mX4_takesRow (d + 4) 0 0 Q 5 [(0, .ref (gs_a G 4 0 0)), (1, .ref (gs_a G 5 13 1)), (2, .int (nI 9))] [] (hp G (gs_set (gs_set σ 5 13 t1) 4 0 v1)) := by
    intro m
    induction m with
    | zero => intros; exfalso; omega
    | succ m ihm =>
      intro i1 j r v1 t1 hmj hjN hi1 hA1 h8 h2 h6 hc hfr hY
      have hkk := tk_k (t := t) hi1
      have h99 := tk_num (t := t) (L := L) (i := i1)
      by_cases hk4 : (tk t L i1).1 = 4
      · refine J_aload_n (i := 0) (n := 6) dX4_takesRow_5 rfl rfl rfl ?_
        refine T_get (k := 6) (n := 9) wk_X4 dX4_takesRow_6 wf_X4_100 (by decide) (by decide) rfl rfl ?_
        rw [h6]
        refine J_aload_n (i := 1) (n := 10) dX4_takesRow_9 rfl rfl rfl ?_
        refine T_alen (c := 5) (k := 0) (t := 0) (v := 12) (n := 11) dX4_takesRow_10 (by decide) (by decide) rfl rfl rfl rfl ?_
        rw [show (12 : Int32) = nI 12 from rfl]
        refine J_icmp_gt (tgt := 99) (n := 14) dX4_takesRow_11 (by decide) rfl (fun c_11 => ?_) (fun c_11 => ?_)
        · exfalso
          rw [nI_ltI (by omega) (by omega)] at c_11
          omega
        · refine J_aload_n (i := 0) (n := 15) dX4_takesRow_14 rfl rfl rfl ?_
          refine J_callVx (n := 18) wS_X4_readsToken (c_T_readsToken (Q := fun r h => r = some (.int (nI 0)) ∧ ∃ v2, mA v1 v2 [2, 3, 4, 7, 8] ∧ cflt v2 (1, tb t L i1) ∧ h = hp G (gs_set (gs_set σ 5 13 t1) 4 0 v2)) (d) ht (htp.w t1) (i := i1) hi1 h2 (fun q => absurd hk4 q) (fun _ v1 a1 a2 => ⟨rfl, v1, a1, a2, rfl⟩)) dX4_takesRow_15 wm_X4_41 ⟨wM_X4_readsToken, wV_X4_readsToken⟩ rfl (T_recv (by decide) (by decide)) rfl rfl (Nat.le_of_ble_eq_true rfl) rfl (fun r h1 hq1 => ?_)
          obtain ⟨rfl, v2, hA2, hf2, rfl⟩ := hq1
          have hA3 := hA1.tr (hA2.sub (by decide))
          refine J_if_ne (tgt := 23) (n := 21) dX4_takesRow_18 (by decide) rfl (fun c_18 => ?_) (fun c_18 => ?_)
          · exact absurd rfl c_18
          · refine J_iconst (n := 22) dX4_takesRow_21 kI_0 rfl ?_
            refine J_iret dX4_takesRow_22 rfl (by first | exact kN_0 | exact kN_1) ?_
            exact hqF (1, tb t L i1) (by rw [hY, tNums_4 hk4]; rfl) v2 t1 hA3 hf2
      · refine J_aload_n (i := 0) (n := 6) dX4_takesRow_5 rfl rfl rfl ?_
        refine T_get (k := 6) (n := 9) wk_X4 dX4_takesRow_6 wf_X4_100 (by decide) (by decide) rfl rfl ?_
        rw [h6]
        refine J_aload_n (i := 1) (n := 10) dX4_takesRow_9 rfl rfl rfl ?_
        refine T_alen (c := 5) (k := 0) (t := 0) (v := 12) (n := 11) dX4_takesRow_10 (by decide) (by decide) rfl rfl rfl rfl ?_
        rw [show (12 : Int32) = nI 12 from rfl]
        refine J_icmp_gt (tgt := 99) (n := 14) dX4_takesRow_11 (by decide) rfl (fun c_11 => ?_) (fun c_11 => ?_)
        · exfalso
          rw [nI_ltI (by omega) (by omega)] at c_11
          omega
        · refine J_aload_n (i := 0) (n := 15) dX4_takesRow_14 rfl rfl rfl ?_
          refine J_callVx (n := 18) wS_X4_readsToken (c_T_readsToken (Q := fun r h => r = some (.int (nI 1)) ∧ ∃ v2, mA v1 v2 [2, 3, 4, 7, 8] ∧ v2.2.1 8 = v1.2.1 8 ∧ ctk v2 t L i1 ∧ h = hp G (gs_set (gs_set σ 5 13 t1) 4 0 v2)) (d) ht (htp.w t1) (i := i1) hi1 h2 (fun _ v1 a1 a2 a3 => ⟨rfl, v1, a1, a2, a3, rfl⟩) (fun q => absurd q hk4)) dX4_takesRow_15 wm_X4_41 ⟨wM_X4_readsToken, wV_X4_readsToken⟩ rfl (T_recv (by decide) (by decide)) rfl rfl (Nat.le_of_ble_eq_true rfl) rfl (fun r h1 hq1 => ?_)
          obtain ⟨rfl, v2, hA2, h82, ⟨h72, h22, h32, h42⟩, rfl⟩ := hq1
          have e6 : v2.2.1 6 = nI j := by rw [hA2.2 6 (by decide)]; exact h6
          have e8 : v2.2.1 8 = v.2.1 8 := by rw [h82]; exact h8
          have hA3 := hA1.tr (hA2.sub (by decide))
          refine J_if_ne (tgt := 23) (n := 21) dX4_takesRow_18 (by decide) rfl (fun c_18 => ?_) (fun c_18 => ?_)
          · refine J_aload_n (i := 0) (n := 24) dX4_takesRow_23 rfl rfl rfl ?_
            refine T_get (k := 3) (n := 27) wk_X4 dX4_takesRow_24 wf_X4_45 (by decide) (by decide) rfl rfl ?_
            rw [h32]
            refine J_iconst (n := 28) dX4_takesRow_27 kI_3 rfl ?_
            refine J_icmp_ne (tgt := 33) (n := 31) dX4_takesRow_28 (by decide) rfl (fun c_28 => ?_) (fun c_28 => ?_)
            · rw [nI_eq (by omega) (by decide)] at c_28
              refine J_aload_n (i := 0) (n := 34) dX4_takesRow_33 rfl rfl rfl ?_
              refine T_get (k := 3) (n := 37) wk_X4 dX4_takesRow_34 wf_X4_45 (by decide) (by decide) rfl rfl ?_
              rw [h32]
              refine J_iconst (n := 38) dX4_takesRow_37 kI_2 rfl ?_
              refine J_icmp_eq (tgt := 47) (n := 41) dX4_takesRow_38 (by decide) rfl (fun c_38 => ?_) (fun c_38 => ?_)
              · rw [nI_eq (by omega) (by decide)] at c_38
                have h42 := h42 c_38
                refine J_aload_n (i := 0) (n := 48) dX4_takesRow_47 rfl rfl rfl ?_
                refine T_get (k := 6) (n := 51) wk_X4 dX4_takesRow_48 wf_X4_100 (by decide) (by decide) rfl rfl ?_
                rw [e6]
                refine J_aload_n (i := 1) (n := 52) dX4_takesRow_51 rfl rfl rfl ?_
                refine T_alen (c := 5) (k := 0) (t := 0) (v := 12) (n := 53) dX4_takesRow_52 (by decide) (by decide) rfl rfl rfl rfl ?_
                rw [show (12 : Int32) = nI 12 from rfl]
                refine J_icmp_ne (tgt := 62) (n := 56) dX4_takesRow_53 (by decide) rfl (fun c_53 => ?_) (fun c_53 => ?_)
                · rw [nI_eq (by omega) (by omega)] at c_53
                  refine J_aload_n (i := 0) (n := 63) dX4_takesRow_62 rfl rfl rfl ?_
                  refine T_get (k := 4) (n := 66) wk_X4 dX4_takesRow_63 wf_X4_88 (by decide) (by decide) rfl rfl ?_
                  rw [h42]
                  refine J_iload_n (i := 2) (n := 67) dX4_takesRow_66 rfl rfl rfl ?_
                  refine J_icmp_le (tgt := 76) (n := 70) dX4_takesRow_67 (by decide) rfl (fun c_67 => ?_) (fun c_67 => ?_)
                  · rw [nI_leI (by omega) (by omega)] at c_67
                    refine J_aload_n (i := 1) (n := 77) dX4_takesRow_76 rfl rfl rfl ?_
                    refine J_aload_n (i := 0) (n := 78) dX4_takesRow_77 rfl rfl rfl ?_
                    refine T_get (k := 6) (n := 81) wk_X4 dX4_takesRow_78 wf_X4_100 (by decide) (by decide) rfl rfl ?_
                    rw [e6]
                    refine J_aload_n (i := 0) (n := 82) dX4_takesRow_81 rfl rfl rfl ?_
                    refine T_get (k := 4) (n := 85) wk_X4 dX4_takesRow_82 wf_X4_88 (by decide) (by decide) rfl rfl ?_
                    rw [h42, gs_cm]
                    refine T_iast (c := 5) (k := 0) (N := 12) (n := 86) dX4_takesRow_85 (by decide) (by decide) (fun _ => rfl) (vp_in_nI (by omega) (by decide)) rfl ?_
                    rw [nI_clamp (by omega), ← gs_cm]
                    refine J_aload_n (i := 0) (n := 87) dX4_takesRow_86 rfl rfl rfl ?_
                    refine J_dup (n := 88) dX4_takesRow_87 rfl rfl ?_
                    refine T_get (k := 6) (n := 91) wk_X4 dX4_takesRow_88 wf_X4_100 (by decide) (by decide) rfl rfl ?_
                    rw [e6]
                    refine J_iconst (n := 92) dX4_takesRow_91 kI_1 rfl ?_
                    refine J_iadd (n := 93) dX4_takesRow_92 rfl ?_
                    rw [nI_add]
                    refine T_putI (k := 6) (n := 96) wk_X4 dX4_takesRow_93 wf_X4_100 (by decide) (by decide) (kN_i _) rfl (Nat.le_of_ble_eq_true rfl) rfl rfl ?_
                    refine J_goto (tgt := 5) dX4_takesRow_96 (by decide) ?_
                    refine ihm (tk t L i1).2.1 (j + 1) _ _ _ (by omega) (by omega) (tk_le hi1 hk4).2 ((hA3).f _ (by decide)) (by rw [gsf_n _ _ (by decide)]; exact e8) (by rw [gsf_n _ _ (by decide)]; exact h22) (gsf_s _ _ _) (fun q hq0 => ?_) ⟨fun q hq0 => by rw [gs_wn _ _ hq0]; exact hfr.1 q hq0, hfr.2⟩ (by rw [hY, tNums_s c_38 (by omega) (by omega)])
                    rw [gs_wk]
                    show _ = nI (if q = j then (tk t L i1).2.2 else r q)
                    by_cases eq : q = j
                    · subst eq
                      rw [if_pos rfl, pk_us]
                    · rw [if_neg eq, pk_un eq]; exact hc q (by omega)
                  · rw [nI_leI (by omega) (by omega)] at c_67
                    refine J_aload_n (i := 0) (n := 71) dX4_takesRow_70 rfl rfl rfl ?_
                    refine J_iconst (n := 72) dX4_takesRow_71 kI_3 rfl ?_
                    refine J_callVr (n := 75) wS_X4_refuses (c_T_refuses (d + 3) _ ⟨rfl, rfl⟩) dX4_takesRow_72 wm_X4_55 ⟨wM_X4_refuses, wV_X4_refuses⟩ rfl (T_recv (by decide) (by decide)) rfl rfl (Nat.le_of_ble_eq_true rfl) rfl ?_
                    refine J_iret dX4_takesRow_75 rfl (by first | exact kN_0 | exact kN_1) ?_
                    exact hqF (3, tb t L i1) (by rw [hY, tNums_3 c_38 (by omega) (by omega)]; rfl) _ t1 (hA3.f _ (by decide)) ⟨gsf_s _ _ _, by rw [gsf_n _ _ (by decide)]; exact h72⟩
                · rw [nI_eq (by omega) (by omega)] at c_53
                  refine J_aload_n (i := 0) (n := 57) dX4_takesRow_56 rfl rfl rfl ?_
                  refine J_iconst (n := 58) dX4_takesRow_57 kI_5 rfl ?_
                  refine J_callVr (n := 61) wS_X4_refuses (c_T_refuses (d + 3) _ ⟨rfl, rfl⟩) dX4_takesRow_58 wm_X4_55 ⟨wM_X4_refuses, wV_X4_refuses⟩ rfl (T_recv (by decide) (by decide)) rfl rfl (Nat.le_of_ble_eq_true rfl) rfl ?_
                  refine J_iret dX4_takesRow_61 rfl (by first | exact kN_0 | exact kN_1) ?_
                  exact hqF (5, tb t L i1) (by rw [hY, tNums_5 c_38 (by omega)]; rfl) _ t1 (hA3.f _ (by decide)) ⟨gsf_s _ _ _, by rw [gsf_n _ _ (by decide)]; exact h72⟩
              · rw [nI_eq (by omega) (by decide)] at c_38
                refine J_aload_n (i := 0) (n := 42) dX4_takesRow_41 rfl rfl rfl ?_
                refine J_iconst (n := 43) dX4_takesRow_42 kI_2 rfl ?_
                refine J_callVr (n := 46) wS_X4_refuses (c_T_refuses (d + 3) _ ⟨rfl, rfl⟩) dX4_takesRow_43 wm_X4_55 ⟨wM_X4_refuses, wV_X4_refuses⟩ rfl (T_recv (by decide) (by decide)) rfl rfl (Nat.le_of_ble_eq_true rfl) rfl ?_
                refine J_iret dX4_takesRow_46 rfl (by first | exact kN_0 | exact kN_1) ?_
                have hm : tMark t L i1 = .inl (2, tb t L i1) := tMark_n hk4 c_28
                exact hqF (2, tb t L i1) (by rw [hY, tNums_e hk4 c_38]; show bnd (tMark t L i1) _ = _; rw [hm]; rfl) _ t1 (hA3.f _ (by decide)) ⟨gsf_s _ _ _, by rw [gsf_n _ _ (by decide)]; exact h72⟩
            · rw [nI_eq (by omega) (by decide)] at c_28
              refine J_iconst (n := 32) dX4_takesRow_31 kI_1 rfl ?_
              refine J_iret dX4_takesRow_32 rfl (by first | exact kN_0 | exact kN_1) ?_
              have hm : tMark t L i1 = .inr (tk t L i1).2.1 := tMark_s c_28
              exact hqS ((tk t L i1).2.1, j, r) (by rw [hY, tNums_e hk4 (by omega)]; show bnd (tMark t L i1) _ = _; rw [hm]; rfl) v2 t1 hA3 e8 h22 e6 hc hfr
          · exact absurd c_18 (by decide +kernel)
  refine J_aload_n (i := 0) (n := 1) dX4_takesRow_0 rfl rfl rfl ?_
  refine J_iconst (n := 2) dX4_takesRow_1 kI_0 rfl ?_
  refine T_putI (k := 6) (n := 5) wk_X4 dX4_takesRow_2 wf_X4_100 (by decide) (by decide) (kN_i _) rfl (Nat.le_of_ble_eq_true rfl) rfl rfl ?_
  exact loop 13 i 0 r0 _ t0 rfl (Nat.zero_le _) hi ((mA.rf _ _).f _ (by decide)) (gsf_n _ _ (by decide)) (by rw [gsf_n _ _ (by decide)]; exact h2) (gsf_s _ _ _) h0 ⟨fun _ _ => rfl, rfl⟩ rfl

set_option maxHeartbeats 4000000 in
set_option maxRecDepth 100000 in
theorem c_T_takesRowRoute {G : gx_G} {σ : gs_S} {Q : Option Value → gx_Hp → Prop} {v : gs_Ob} {t0 : gs_Ob} (d : Nat) {t : Nat → Nat} {L : Nat} (ht : tOk t L) (htp : ctp σ t L) {i : Nat} {r0 : Nat → Nat} (hi : i ≤ L) (h2 : v.2.1 2 = nI i) (h0 : (∀ q, q < 0 → t0.1 4 q = nI (r0 q))) (hqS : ∀ x, (tRow t L 11 6 i r0) = .inr x → ∀ v1 t1, mA v v1 [2, 3, 4, 6, 7, 8] → v1.2.1 8 = v.2.1 8 → v1.2.1 2 = nI x.1 → v1.2.1 6 = nI x.2.1 → (∀ q, q < x.2.1 → t1.1 4 q = nI (x.2.2 q)) → ((∀ q, q ≠ 4 → t1.1 q = t0.1 q) ∧ t1.2 = t0.2) → Q (some (.int (nI 1))) (hp G (gs_set (gs_set σ 5 13 t1) 4 0 v1))) (hqF : ∀ e, (tRow t L 11 6 i r0) = .inl e → ∀ v1 t1, mA v v1 [2, 3, 4, 6, 7, 8] → cflt v1 e → Q (some (.int (nI 0))) (hp G (gs_set (gs_set σ 5 13 t1) 4 0 v1))) : gx_K G yX4_takesRow mX4_takesRow (d + 4) 0 0 [.ref (gs_a G 4 0 0), .ref (gs_a G 5 13 5), .int (nI 11)] (hp G (gs_set (gs_set σ 5 13 t0) 4 0 v)) Q := by
  refine gx_K.of' (lv := [(0, _), (1, _), (2, _)]) (by decide) rfl (by decide) (Nat.le_of_ble_eq_true rfl) rfl ?_
  have hL := ht.1
  have loop : ∀ m i1 j r v1 t1, m + j = 7 → j ≤ 6 → i1 ≤ L → mA v v1 [2, 3, 4, 6, 7, 8] → v1.2.1 8 = v.2.1 8 → v1.2.1 2 = nI i1 → v1.2.1 6 = nI j → (∀ q, q < j → t1.1 4 q = nI (r q)) → ((∀ q, q ≠ 4 → t1.1 q = t0.1 q) ∧ t1.2 = t0.2) → (tRow t L 11 6 i r0) = bmr t L (tNums t L 11 6 m i1 j r) → gx_J G mX4_takesRow (d + 4) 0 0 Q 5 [(0, .ref (gs_a G 4 0 0)), (1, .ref (gs_a G 5 13 5)), (2, .int (nI 11))] [] (hp G (gs_set (gs_set σ 5 13 t1) 4 0 v1)) := by
    intro m
    induction m with
    | zero => intros; exfalso; omega
    | succ m ihm =>
      intro i1 j r v1 t1 hmj hjN hi1 hA1 h8 h2 h6 hc hfr hY
      have hkk := tk_k (t := t) hi1
      have h99 := tk_num (t := t) (L := L) (i := i1)
      by_cases hk4 : (tk t L i1).1 = 4
      · refine J_aload_n (i := 0) (n := 6) dX4_takesRow_5 rfl rfl rfl ?_
        refine T_get (k := 6) (n := 9) wk_X4 dX4_takesRow_6 wf_X4_100 (by decide) (by decide) rfl rfl ?_
        rw [h6]
        refine J_aload_n (i := 1) (n := 10) dX4_takesRow_9 rfl rfl rfl ?_
        refine T_alen (c := 5) (k := 4) (t := 0) (v := 6) (n := 11) dX4_takesRow_10 (by decide) (by decide) rfl rfl rfl rfl ?_
        rw [show (6 : Int32) = nI 6 from rfl]
        refine J_icmp_gt (tgt := 99) (n := 14) dX4_takesRow_11 (by decide) rfl (fun c_11 => ?_) (fun c_11 => ?_)
        · exfalso
          rw [nI_ltI (by omega) (by omega)] at c_11
          omega
        · refine J_aload_n (i := 0) (n := 15) dX4_takesRow_14 rfl rfl rfl ?_
          refine J_callVx (n := 18) wS_X4_readsToken (c_T_readsToken (Q := fun r h => r = some (.int (nI 0)) ∧ ∃ v2, mA v1 v2 [2, 3, 4, 7, 8] ∧ cflt v2 (1, tb t L i1) ∧ h = hp G (gs_set (gs_set σ 5 13 t1) 4 0 v2)) (d) ht (htp.w t1) (i := i1) hi1 h2 (fun q => absurd hk4 q) (fun _ v1 a1 a2 => ⟨rfl, v1, a1, a2, rfl⟩)) dX4_takesRow_15 wm_X4_41 ⟨wM_X4_readsToken, wV_X4_readsToken⟩ rfl (T_recv (by decide) (by decide)) rfl rfl (Nat.le_of_ble_eq_true rfl) rfl (fun r h1 hq1 => ?_)
          obtain ⟨rfl, v2, hA2, hf2, rfl⟩ := hq1
          have hA3 := hA1.tr (hA2.sub (by decide))
          refine J_if_ne (tgt := 23) (n := 21) dX4_takesRow_18 (by decide) rfl (fun c_18 => ?_) (fun c_18 => ?_)
          · exact absurd rfl c_18
          · refine J_iconst (n := 22) dX4_takesRow_21 kI_0 rfl ?_
            refine J_iret dX4_takesRow_22 rfl (by first | exact kN_0 | exact kN_1) ?_
            exact hqF (1, tb t L i1) (by rw [hY, tNums_4 hk4]; rfl) v2 t1 hA3 hf2
      · refine J_aload_n (i := 0) (n := 6) dX4_takesRow_5 rfl rfl rfl ?_
        refine T_get (k := 6) (n := 9) wk_X4 dX4_takesRow_6 wf_X4_100 (by decide) (by decide) rfl rfl ?_
        rw [h6]
        refine J_aload_n (i := 1) (n := 10) dX4_takesRow_9 rfl rfl rfl ?_
        refine T_alen (c := 5) (k := 4) (t := 0) (v := 6) (n := 11) dX4_takesRow_10 (by decide) (by decide) rfl rfl rfl rfl ?_
        rw [show (6 : Int32) = nI 6 from rfl]
        refine J_icmp_gt (tgt := 99) (n := 14) dX4_takesRow_11 (by decide) rfl (fun c_11 => ?_) (fun c_11 => ?_)
        · exfalso
          rw [nI_ltI (by omega) (by omega)] at c_11
          omega
        · refine J_aload_n (i := 0) (n := 15) dX4_takesRow_14 rfl rfl rfl ?_
          refine J_callVx (n := 18) wS_X4_readsToken (c_T_readsToken (Q := fun r h => r = some (.int (nI 1)) ∧ ∃ v2, mA v1 v2 [2, 3, 4, 7, 8] ∧ v2.2.1 8 = v1.2.1 8 ∧ ctk v2 t L i1 ∧ h = hp G (gs_set (gs_set σ 5 13 t1) 4 0 v2)) (d) ht (htp.w t1) (i := i1) hi1 h2 (fun _ v1 a1 a2 a3 => ⟨rfl, v1, a1, a2, a3, rfl⟩) (fun q => absurd q hk4)) dX4_takesRow_15 wm_X4_41 ⟨wM_X4_readsToken, wV_X4_readsToken⟩ rfl (T_recv (by decide) (by decide)) rfl rfl (Nat.le_of_ble_eq_true rfl) rfl (fun r h1 hq1 => ?_)
          obtain ⟨rfl, v2, hA2, h82, ⟨h72, h22, h32, h42⟩, rfl⟩ := hq1
          have e6 : v2.2.1 6 = nI j := by rw [hA2.2 6 (by decide)]; exact h6
          have e8 : v2.2.1 8 = v.2.1 8 := by rw [h82]; exact h8
          have hA3 := hA1.tr (hA2.sub (by decide))
          refine J_if_ne (tgt := 23) (n := 21) dX4_takesRow_18 (by decide) rfl (fun c_18 => ?_) (fun c_18 => ?_)
          · refine J_aload_n (i := 0) (n := 24) dX4_takesRow_23 rfl rfl rfl ?_
            refine T_get (k := 3) (n := 27) wk_X4 dX4_takesRow_24 wf_X4_45 (by decide) (by decide) rfl rfl ?_
            rw [h32]
            refine J_iconst (n := 28) dX4_takesRow_27 kI_3 rfl ?_
            refine J_icmp_ne (tgt := 33) (n := 31) dX4_takesRow_28 (by decide) rfl (fun c_28 => ?_) (fun c_28 => ?_)
            · rw [nI_eq (by omega) (by decide)] at c_28
              refine J_aload_n (i := 0) (n := 34) dX4_takesRow_33 rfl rfl rfl ?_
              refine T_get (k := 3) (n := 37) wk_X4 dX4_takesRow_34 wf_X4_45 (by decide) (by decide) rfl rfl ?_
              rw [h32]
              refine J_iconst (n := 38) dX4_takesRow_37 kI_2 rfl ?_
              refine J_icmp_eq (tgt := 47) (n := 41) dX4_takesRow_38 (by decide) rfl (fun c_38 => ?_) (fun c_38 => ?_)
              · rw [nI_eq (by omega) (by decide)] at c_38
                have h42 := h42 c_38
                refine J_aload_n (i := 0) (n := 48) dX4_takesRow_47 rfl rfl rfl ?_
                refine T_get (k := 6) (n := 51) wk_X4 dX4_takesRow_48 wf_X4_100 (by decide) (by decide) rfl rfl ?_
                rw [e6]
                refine J_aload_n (i := 1) (n := 52) dX4_takesRow_51 rfl rfl rfl ?_
                refine T_alen (c := 5) (k := 4) (t := 0) (v := 6) (n := 53) dX4_takesRow_52 (by decide) (by decide) rfl rfl rfl rfl ?_
                rw [show (6 : Int32) = nI 6 from rfl]
                refine J_icmp_ne (tgt := 62) (n := 56) dX4_takesRow_53 (by decide) rfl (fun c_53 => ?_) (fun c_53 => ?_)
                · rw [nI_eq (by omega) (by omega)] at c_53
                  refine J_aload_n (i := 0) (n := 63) dX4_takesRow_62 rfl rfl rfl ?_
                  refine T_get (k := 4) (n := 66) wk_X4 dX4_takesRow_63 wf_X4_88 (by decide) (by decide) rfl rfl ?_
                  rw [h42]
                  refine J_iload_n (i := 2) (n := 67) dX4_takesRow_66 rfl rfl rfl ?_
                  refine J_icmp_le (tgt := 76) (n := 70) dX4_takesRow_67 (by decide) rfl (fun c_67 => ?_) (fun c_67 => ?_)
                  · rw [nI_leI (by omega) (by omega)] at c_67
                    refine J_aload_n (i := 1) (n := 77) dX4_takesRow_76 rfl rfl rfl ?_
                    refine J_aload_n (i := 0) (n := 78) dX4_takesRow_77 rfl rfl rfl ?_
                    refine T_get (k := 6) (n := 81) wk_X4 dX4_takesRow_78 wf_X4_100 (by decide) (by decide) rfl rfl ?_
                    rw [e6]
                    refine J_aload_n (i := 0) (n := 82) dX4_takesRow_81 rfl rfl rfl ?_
                    refine T_get (k := 4) (n := 85) wk_X4 dX4_takesRow_82 wf_X4_88 (by decide) (by decide) rfl rfl ?_
                    rw [h42, gs_cm]
                    refine T_iast (c := 5) (k := 4) (N := 6) (n := 86) dX4_takesRow_85 (by decide) (by decide) (fun _ => rfl) (vp_in_nI (by omega) (by decide)) rfl ?_
                    rw [nI_clamp (by omega), ← gs_cm]
                    refine J_aload_n (i := 0) (n := 87) dX4_takesRow_86 rfl rfl rfl ?_
                    refine J_dup (n := 88) dX4_takesRow_87 rfl rfl ?_
                    refine T_get (k := 6) (n := 91) wk_X4 dX4_takesRow_88 wf_X4_100 (by decide) (by decide) rfl rfl ?_
                    rw [e6]
                    refine J_iconst (n := 92) dX4_takesRow_91 kI_1 rfl ?_
                    refine J_iadd (n := 93) dX4_takesRow_92 rfl ?_
                    rw [nI_add]
                    refine T_putI (k := 6) (n := 96) wk_X4 dX4_takesRow_93 wf_X4_100 (by decide) (by decide) (kN_i _) rfl (Nat.le_of_ble_eq_true rfl) rfl rfl ?_
                    refine J_goto (tgt := 5) dX4_takesRow_96 (by decide) ?_
                    refine ihm (tk t L i1).2.1 (j + 1) _ _ _ (by omega) (by omega) (tk_le hi1 hk4).2 ((hA3).f _ (by decide)) (by rw [gsf_n _ _ (by decide)]; exact e8) (by rw [gsf_n _ _ (by decide)]; exact h22) (gsf_s _ _ _) (fun q hq0 => ?_) ⟨fun q hq0 => by rw [gs_wn _ _ hq0]; exact hfr.1 q hq0, hfr.2⟩ (by rw [hY, tNums_s c_38 (by omega) (by omega)])
                    rw [gs_wk]
                    show _ = nI (if q = j then (tk t L i1).2.2 else r q)
                    by_cases eq : q = j
                    · subst eq
                      rw [if_pos rfl, pk_us]
                    · rw [if_neg eq, pk_un eq]; exact hc q (by omega)
                  · rw [nI_leI (by omega) (by omega)] at c_67
                    refine J_aload_n (i := 0) (n := 71) dX4_takesRow_70 rfl rfl rfl ?_
                    refine J_iconst (n := 72) dX4_takesRow_71 kI_3 rfl ?_
                    refine J_callVr (n := 75) wS_X4_refuses (c_T_refuses (d + 3) _ ⟨rfl, rfl⟩) dX4_takesRow_72 wm_X4_55 ⟨wM_X4_refuses, wV_X4_refuses⟩ rfl (T_recv (by decide) (by decide)) rfl rfl (Nat.le_of_ble_eq_true rfl) rfl ?_
                    refine J_iret dX4_takesRow_75 rfl (by first | exact kN_0 | exact kN_1) ?_
                    exact hqF (3, tb t L i1) (by rw [hY, tNums_3 c_38 (by omega) (by omega)]; rfl) _ t1 (hA3.f _ (by decide)) ⟨gsf_s _ _ _, by rw [gsf_n _ _ (by decide)]; exact h72⟩
                · rw [nI_eq (by omega) (by omega)] at c_53
                  refine J_aload_n (i := 0) (n := 57) dX4_takesRow_56 rfl rfl rfl ?_
                  refine J_iconst (n := 58) dX4_takesRow_57 kI_5 rfl ?_
                  refine J_callVr (n := 61) wS_X4_refuses (c_T_refuses (d + 3) _ ⟨rfl, rfl⟩) dX4_takesRow_58 wm_X4_55 ⟨wM_X4_refuses, wV_X4_refuses⟩ rfl (T_recv (by decide) (by decide)) rfl rfl (Nat.le_of_ble_eq_true rfl) rfl ?_
                  refine J_iret dX4_takesRow_61 rfl (by first | exact kN_0 | exact kN_1) ?_
                  exact hqF (5, tb t L i1) (by rw [hY, tNums_5 c_38 (by omega)]; rfl) _ t1 (hA3.f _ (by decide)) ⟨gsf_s _ _ _, by rw [gsf_n _ _ (by decide)]; exact h72⟩
              · rw [nI_eq (by omega) (by decide)] at c_38
                refine J_aload_n (i := 0) (n := 42) dX4_takesRow_41 rfl rfl rfl ?_
                refine J_iconst (n := 43) dX4_takesRow_42 kI_2 rfl ?_
                refine J_callVr (n := 46) wS_X4_refuses (c_T_refuses (d + 3) _ ⟨rfl, rfl⟩) dX4_takesRow_43 wm_X4_55 ⟨wM_X4_refuses, wV_X4_refuses⟩ rfl (T_recv (by decide) (by decide)) rfl rfl (Nat.le_of_ble_eq_true rfl) rfl ?_
                refine J_iret dX4_takesRow_46 rfl (by first | exact kN_0 | exact kN_1) ?_
                have hm : tMark t L i1 = .inl (2, tb t L i1) := tMark_n hk4 c_28
                exact hqF (2, tb t L i1) (by rw [hY, tNums_e hk4 c_38]; show bnd (tMark t L i1) _ = _; rw [hm]; rfl) _ t1 (hA3.f _ (by decide)) ⟨gsf_s _ _ _, by rw [gsf_n _ _ (by decide)]; exact h72⟩
            · rw [nI_eq (by omega) (by decide)] at c_28
              refine J_iconst (n := 32) dX4_takesRow_31 kI_1 rfl ?_
              refine J_iret dX4_takesRow_32 rfl (by first | exact kN_0 | exact kN_1) ?_
              have hm : tMark t L i1 = .inr (tk t L i1).2.1 := tMark_s c_28
              exact hqS ((tk t L i1).2.1, j, r) (by rw [hY, tNums_e hk4 (by omega)]; show bnd (tMark t L i1) _ = _; rw [hm]; rfl) v2 t1 hA3 e8 h22 e6 hc hfr
          · exact absurd c_18 (by decide +kernel)
  refine J_aload_n (i := 0) (n := 1) dX4_takesRow_0 rfl rfl rfl ?_
  refine J_iconst (n := 2) dX4_takesRow_1 kI_0 rfl ?_
  refine T_putI (k := 6) (n := 5) wk_X4 dX4_takesRow_2 wf_X4_100 (by decide) (by decide) (kN_i _) rfl (Nat.le_of_ble_eq_true rfl) rfl rfl ?_
  exact loop 7 i 0 r0 _ t0 rfl (Nat.zero_le _) hi ((mA.rf _ _).f _ (by decide)) (gsf_n _ _ (by decide)) (by rw [gsf_n _ _ (by decide)]; exact h2) (gsf_s _ _ _) h0 ⟨fun _ _ => rfl, rfl⟩ rfl

