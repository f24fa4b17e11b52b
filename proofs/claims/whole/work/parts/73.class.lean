theorem wR.gl {t : gs_Ob} {p : pw} (h : wR t p) (hc : t.1 1 (p.2.2 6) = nI (p.1 1 (p.2.2 6)) ∧ t.1 2 (p.2.2 6) = nI (p.1 2 (p.2.2 6)) ∧ t.1 3 (p.2.2 6) = nI (p.1 3 (p.2.2 6))) : wR (gs_f t 6 (nI (p.2.2 6 + 1))) (pw_f p 6 (p.2.2 6 + 1)) := by
  obtain ⟨a1, a2, a3, a4, a5⟩ := h
  refine ⟨a1, fun j hj => ?_, a3, ?_, fun k k1 k2 => ?_⟩
  · have hj : j < p.2.2 6 + 1 := hj
    by_cases e : j = p.2.2 6
    · subst e; exact hc
    · exact a2 j (by omega)
  · rw [gsf_n _ _ (by decide)]; exact a4
  · by_cases e : k = 6
    · subst e; rw [gsf_s]; simp [pw_f]
    · rw [gsf_n _ _ e, a5 k k1 k2]; simp [pw_f, e]
theorem wR.fam {t t1 : gs_Ob} {p : pw} {r : Nat → Nat} (h : wR t p) (h1 : ∀ q, q < 12 → t1.1 0 q = nI (r q)) (h2 : ∀ q, q ≠ 0 → t1.1 q = t.1 q) (h3 : t1.2 = t.2) : wR t1 (pw_r p 0 r) := by
  obtain ⟨a1, a2, a3, a4, a5⟩ := h
  refine ⟨h1, fun j hj => ?_, fun j hj => ?_, by rw [h3]; exact a4, fun k k1 k2 => by rw [h3]; exact a5 k k1 k2⟩
  · rw [h2 1 (by decide), h2 2 (by decide), h2 3 (by decide)]; exact a2 j hj
  · rw [h2 4 (by decide)]; exact a3 j hj
theorem wR.rou {t t1 : gs_Ob} {p : pw} {r : Nat → Nat} {j : Nat} (h : wR t p) (h1 : ∀ q, q < j → t1.1 4 q = nI (r q)) (h2 : ∀ q, q ≠ 4 → t1.1 q = t.1 q) (h3 : t1.2 = t.2) : wR (gs_f t1 7 (nI j)) (pw_f (pw_r p 4 r) 7 j) := by
  obtain ⟨a1, a2, a3, a4, a5⟩ := h
  refine ⟨fun q hq => ?_, fun q hq => ?_, fun q hq => h1 q hq, ?_, fun k k1 k2 => ?_⟩
  · show t1.1 0 q = _
    rw [h2 0 (by decide)]; exact a1 q hq
  · show t1.1 1 q = _ ∧ t1.1 2 q = _ ∧ t1.1 3 q = _
    rw [h2 1 (by decide), h2 2 (by decide), h2 3 (by decide)]; exact a2 q hq
  · rw [gsf_n _ _ (by decide), h3]; exact a4
  · by_cases e : k = 7
    · subst e; rw [gsf_s]; simp [pw_f]
    · rw [gsf_n _ _ e, h3, a5 k k1 k2]; simp [pw_f, pw_r, e]
theorem bm_rou (t : Nat → Nat) (L i : Nat) (D : pw) : bm t L (tRou t L D i) = bnd (tRow t L 11 6 i (D.1 4)) fun x => .inr (x.1, pw_f (pw_r D 4 x.2.2) 7 x.2.1) := by
  unfold bm tRou tRow
  cases tNums t L 11 6 (6 + 1) i 0 (D.1 4) with
  | inl e => rfl
  | inr x =>
    show bnd (tMark t L x.1) _ = bnd (bnd (tMark t L x.1) _) _
    cases tMark t L x.1 <;> rfl
theorem bm_fam (t : Nat → Nat) (L i : Nat) (D : pw) : bm t L (tFam t L D i) = bnd (tRow t L 9 12 i (D.1 0)) fun x => .inr (x.1, pw_r D 0 x.2.2) := by
  unfold bm tFam tRow
  cases tNums t L 9 12 (12 + 1) i 0 (D.1 0) with
  | inl e => rfl
  | inr x =>
    show bnd (tMark t L x.1) _ = bnd (bnd (tMark t L x.1) _) _
    cases tMark t L x.1 <;> rfl
theorem inl_ne {α β : Type} {a : α} {b : β} {x : α ⊕ β} (h : x = .inl a) (h2 : x = .inr b) : False := by rw [h] at h2; cases h2
set_option maxHeartbeats 4000000 in
set_option maxRecDepth 100000 in
theorem c_T_takesMan {G : gx_G} {σ : gs_S} {Q : Option Value → gx_Hp → Prop} {v t0 : gs_Ob} {D : pw} (d : Nat) {t : Nat → Nat} {L : Nat} (ht : tOk t L) (htp : ctp σ t L) {i : Nat} (hi : i ≤ L) (h2 : v.2.1 2 = nI i) (hw : wR t0 D) (hqS : ∀ x, (bm t L (tMan t L D i)) = .inr x → ∀ v1 t1, mA v v1 [2, 3, 4, 6, 7, 8] → v1.2.1 8 = v.2.1 8 → v1.2.1 2 = nI x.1 → wR t1 x.2 → Q (some (.int (nI 1))) (hp G (gs_set (gs_set σ 5 13 t1) 4 0 v1))) (hqF : ∀ e, (bm t L (tMan t L D i)) = .inl e → ∀ v1 t1, mA v v1 [2, 3, 4, 6, 7, 8] → cflt v1 e → Q (some (.int (nI 0))) (hp G (gs_set (gs_set σ 5 13 t1) 4 0 v1))) : gx_K G yX4_takesMan mX4_takesMan (d + 5) 0 0 [.ref (gs_a G 4 0 0)] (hp G (gs_set (gs_set σ 5 13 t0) 4 0 v)) Q := by
  refine gx_K.of' (lv := [(0, _)]) (by decide) rfl (by decide) (Nat.le_of_ble_eq_true rfl) rfl ?_
  cases hT : tNum t L 11 i with
  | inl e =>
    refine J_aload_n (i := 0) (n := 1) dX4_takesMan_0 rfl rfl rfl ?_
    refine J_bipush (n := 3) dX4_takesMan_1 kB_11 rfl ?_
    refine J_callVx (n := 6) wS_X4_takesNumber (c_T_takesNumber (Q := fun r h => r = some (.int (nI 0)) ∧ ∃ v1, mA v v1 [2, 3, 4, 7, 8] ∧ cflt v1 e ∧ h = hp G (gs_set (gs_set σ 5 13 t0) 4 0 v1)) (d) ht (htp.w _) (i := i) (most := 11) (by decide) hi h2 (fun z hz => (inl_ne hT hz).elim) (fun z hz => by rw [hT] at hz; cases hz; exact fun v1 a1 a2 => ⟨rfl, v1, a1, a2, rfl⟩)) dX4_takesMan_3 wm_X4_82 ⟨wM_X4_takesNumber, wV_X4_takesNumber⟩ rfl (T_recv (by decide) (by decide)) rfl rfl (Nat.le_of_ble_eq_true rfl) rfl (fun r h1 hq1 => ?_)
    obtain ⟨rfl, v1, hA1, hf1, rfl⟩ := hq1
    refine J_if_ne (tgt := 11) (n := 9) dX4_takesMan_6 (by decide) rfl (fun c_6 => ?_) (fun c_6 => ?_)
    · exact absurd rfl c_6
    · refine J_iconst (n := 10) dX4_takesMan_9 kI_0 rfl ?_
      refine J_iret dX4_takesMan_10 rfl (by first | exact kN_0 | exact kN_1) ?_
      exact hqF e (by unfold tMan; rw [hT]; rfl) v1 t0 (hA1.sub (by decide)) hf1
  | inr x =>
    have hb := tNum_ok hT hi
    cases hM : tMark t L x.1 with
    | inl e =>
      refine J_aload_n (i := 0) (n := 1) dX4_takesMan_0 rfl rfl rfl ?_
      refine J_bipush (n := 3) dX4_takesMan_1 kB_11 rfl ?_
      refine J_callVx (n := 6) wS_X4_takesNumber (c_T_takesNumber (Q := fun r h => r = some (.int (nI 1)) ∧ ∃ v1, mA v v1 [2, 3, 4, 7, 8] ∧ v1.2.1 8 = v.2.1 8 ∧ v1.2.1 2 = nI x.1 ∧ v1.2.1 4 = nI x.2 ∧ h = hp G (gs_set (gs_set σ 5 13 t0) 4 0 v1)) (d) ht (htp.w _) (i := i) (most := 11) (by decide) hi h2 (fun z hz => by rw [hT] at hz; cases hz; exact fun v1 a1 a2 a3 a4 => ⟨rfl, v1, a1, a2, a3, a4, rfl⟩) (fun z hz => (inl_ne hz hT).elim)) dX4_takesMan_3 wm_X4_82 ⟨wM_X4_takesNumber, wV_X4_takesNumber⟩ rfl (T_recv (by decide) (by decide)) rfl rfl (Nat.le_of_ble_eq_true rfl) rfl (fun r h1 hq1 => ?_)
      obtain ⟨rfl, v1, hA1, h81, h21, h41, rfl⟩ := hq1
      refine J_if_ne (tgt := 11) (n := 9) dX4_takesMan_6 (by decide) rfl (fun c_6 => ?_) (fun c_6 => ?_)
      · refine J_aload_n (i := 0) (n := 12) dX4_takesMan_11 rfl rfl rfl ?_
        refine T_get (k := 1) (n := 15) wk_X4 dX4_takesMan_12 wf_X4_21 (by decide) (by decide) rfl rfl ?_
        refine J_aload_n (i := 0) (n := 16) dX4_takesMan_15 rfl rfl rfl ?_
        refine T_get (k := 4) (n := 19) wk_X4 dX4_takesMan_16 wf_X4_88 (by decide) (by decide) rfl rfl ?_
        rw [h41, gs_cm]
        refine T_putI (k := 8) (n := 22) wk_X5 dX4_takesMan_19 wf_X4_106 (by decide) (by decide) (kN_i _) rfl (Nat.le_of_ble_eq_true rfl) rfl rfl ?_
        rw [← gs_cm]
        refine J_aload_n (i := 0) (n := 23) dX4_takesMan_22 rfl rfl rfl ?_
        refine J_callVx (n := 26) wS_X4_takesMark (c_T_takesMark (Q := fun r h => r = some (.int (nI 0)) ∧ ∃ v2, mA v1 v2 [2, 3, 4, 7, 8] ∧ cflt v2 e ∧ h = hp G (gs_set (gs_set σ 5 13 (gs_f t0 8 (nI x.2))) 4 0 v2)) (d) ht (htp.w _) (i := x.1) hb.2.1 h21 (fun z hz => (inl_ne hM hz).elim) (fun z hz => by rw [hM] at hz; cases hz; exact fun v1 a1 a2 => ⟨rfl, v1, a1, a2, rfl⟩)) dX4_takesMan_23 wm_X4_94 ⟨wM_X4_takesMark, wV_X4_takesMark⟩ rfl (T_recv (by decide) (by decide)) rfl rfl (Nat.le_of_ble_eq_true rfl) rfl (fun r h1 hq1 => ?_)
        obtain ⟨rfl, v2, hA2, hf2, rfl⟩ := hq1
        refine J_iret dX4_takesMan_26 rfl (by first | exact kN_0 | exact kN_1) ?_
        exact hqF e (by unfold tMan; rw [hT]; show bnd (tMark t L x.1) _ = _; rw [hM]; rfl) v2 _ ((hA1.tr hA2).sub (by decide)) hf2
      · exact absurd c_6 (by decide +kernel)
    | inr n1 =>
      refine J_aload_n (i := 0) (n := 1) dX4_takesMan_0 rfl rfl rfl ?_
      refine J_bipush (n := 3) dX4_takesMan_1 kB_11 rfl ?_
      refine J_callVx (n := 6) wS_X4_takesNumber (c_T_takesNumber (Q := fun r h => r = some (.int (nI 1)) ∧ ∃ v1, mA v v1 [2, 3, 4, 7, 8] ∧ v1.2.1 8 = v.2.1 8 ∧ v1.2.1 2 = nI x.1 ∧ v1.2.1 4 = nI x.2 ∧ h = hp G (gs_set (gs_set σ 5 13 t0) 4 0 v1)) (d) ht (htp.w _) (i := i) (most := 11) (by decide) hi h2 (fun z hz => by rw [hT] at hz; cases hz; exact fun v1 a1 a2 a3 a4 => ⟨rfl, v1, a1, a2, a3, a4, rfl⟩) (fun z hz => (inl_ne hz hT).elim)) dX4_takesMan_3 wm_X4_82 ⟨wM_X4_takesNumber, wV_X4_takesNumber⟩ rfl (T_recv (by decide) (by decide)) rfl rfl (Nat.le_of_ble_eq_true rfl) rfl (fun r h1 hq1 => ?_)
      obtain ⟨rfl, v1, hA1, h81, h21, h41, rfl⟩ := hq1
      refine J_if_ne (tgt := 11) (n := 9) dX4_takesMan_6 (by decide) rfl (fun c_6 => ?_) (fun c_6 => ?_)
      · refine J_aload_n (i := 0) (n := 12) dX4_takesMan_11 rfl rfl rfl ?_
        refine T_get (k := 1) (n := 15) wk_X4 dX4_takesMan_12 wf_X4_21 (by decide) (by decide) rfl rfl ?_
        refine J_aload_n (i := 0) (n := 16) dX4_takesMan_15 rfl rfl rfl ?_
        refine T_get (k := 4) (n := 19) wk_X4 dX4_takesMan_16 wf_X4_88 (by decide) (by decide) rfl rfl ?_
        rw [h41, gs_cm]
        refine T_putI (k := 8) (n := 22) wk_X5 dX4_takesMan_19 wf_X4_106 (by decide) (by decide) (kN_i _) rfl (Nat.le_of_ble_eq_true rfl) rfl rfl ?_
        rw [← gs_cm]
        refine J_aload_n (i := 0) (n := 23) dX4_takesMan_22 rfl rfl rfl ?_
        refine J_callVx (n := 26) wS_X4_takesMark (c_T_takesMark (Q := fun r h => r = some (.int (nI 1)) ∧ ∃ v2, mA v1 v2 [2, 3, 4, 7, 8] ∧ v2.2.1 8 = v1.2.1 8 ∧ v2.2.1 2 = nI n1 ∧ h = hp G (gs_set (gs_set σ 5 13 (gs_f t0 8 (nI x.2))) 4 0 v2)) (d) ht (htp.w _) (i := x.1) hb.2.1 h21 (fun z hz => by rw [hM] at hz; cases hz; exact fun v1 a1 a2 a3 => ⟨rfl, v1, a1, a2, a3, rfl⟩) (fun z hz => (inl_ne hz hM).elim)) dX4_takesMan_23 wm_X4_94 ⟨wM_X4_takesMark, wV_X4_takesMark⟩ rfl (T_recv (by decide) (by decide)) rfl rfl (Nat.le_of_ble_eq_true rfl) rfl (fun r h1 hq1 => ?_)
        obtain ⟨rfl, v2, hA2, h82, h22, rfl⟩ := hq1
        refine J_iret dX4_takesMan_26 rfl (by first | exact kN_0 | exact kN_1) ?_
        exact hqS (n1, pw_f D 8 x.2) (by unfold tMan; rw [hT]; show bnd (tMark t L x.1) _ = _; rw [hM]; rfl) v2 _ ((hA1.tr hA2).sub (by decide)) (by rw [h82, h81]) h22 (hw.fld 8 x.2 (by decide))
      · exact absurd c_6 (by decide +kernel)


set_option maxHeartbeats 4000000 in
set_option maxRecDepth 100000 in
theorem c_T_takesRoute {G : gx_G} {σ : gs_S} {Q : Option Value → gx_Hp → Prop} {v t0 : gs_Ob} {D : pw} (d : Nat) {t : Nat → Nat} {L : Nat} (ht : tOk t L) (htp : ctp σ t L) {i : Nat} (hi : i ≤ L) (h2 : v.2.1 2 = nI i) (hw : wR t0 D) (hqS : ∀ x, (bm t L (tRou t L D i)) = .inr x → ∀ v1 t1, mA v v1 [2, 3, 4, 6, 7, 8] → v1.2.1 8 = v.2.1 8 → v1.2.1 2 = nI x.1 → wR t1 x.2 → Q (some (.int (nI 1))) (hp G (gs_set (gs_set σ 5 13 t1) 4 0 v1))) (hqF : ∀ e, (bm t L (tRou t L D i)) = .inl e → ∀ v1 t1, mA v v1 [2, 3, 4, 6, 7, 8] → cflt v1 e → Q (some (.int (nI 0))) (hp G (gs_set (gs_set σ 5 13 t1) 4 0 v1))) : gx_K G yX4_takesRoute mX4_takesRoute (d + 5) 0 0 [.ref (gs_a G 4 0 0)] (hp G (gs_set (gs_set σ 5 13 t0) 4 0 v)) Q := by
  refine gx_K.of' (lv := [(0, _)]) (by decide) rfl (by decide) (Nat.le_of_ble_eq_true rfl) rfl ?_
  cases hT : tRow t L 11 6 i (D.1 4) with
  | inl e =>
    refine J_aload_n (i := 0) (n := 1) dX4_takesRoute_0 rfl rfl rfl ?_
    refine J_aload_n (i := 0) (n := 2) dX4_takesRoute_1 rfl rfl rfl ?_
    refine T_get (k := 1) (n := 5) wk_X4 dX4_takesRoute_2 wf_X4_21 (by decide) (by decide) rfl rfl ?_
    refine T_getO (k := 4) (n := 8) wk_X5 dX4_takesRoute_5 wf_X4_97 (by decide) (by decide) rfl rfl ?_
    refine J_bipush (n := 10) dX4_takesRoute_8 kB_11 rfl ?_
    refine J_callVx (n := 13) wS_X4_takesRow (c_T_takesRowRoute (t0 := t0) (Q := fun r h => r = some (.int (nI 0)) ∧ ∃ v1 t1, mA v v1 [2, 3, 4, 6, 7, 8] ∧ cflt v1 e ∧ h = hp G (gs_set (gs_set σ 5 13 t1) 4 0 v1)) (d) ht htp (i := i) (r0 := D.1 4) hi h2 (fun q hq0 => absurd hq0 (Nat.not_lt_zero _)) (fun z hz => (inl_ne hT hz).elim) (fun z hz => by rw [hT] at hz; cases hz; exact fun v1 t1 a1 a2 => ⟨rfl, v1, t1, a1, a2, rfl⟩)) dX4_takesRoute_10 wm_X4_66 ⟨wM_X4_takesRow, wV_X4_takesRow⟩ rfl (T_recv (by decide) (by decide)) rfl rfl (Nat.le_of_ble_eq_true rfl) rfl (fun r h1 hq1 => ?_)
    obtain ⟨rfl, v1, t1, hA1, hf1, rfl⟩ := hq1
    refine J_istore_n (i := 1) (n := 14) (lv' := [(0, _), (1, _)]) dX4_takesRoute_13 rfl (by decide) rfl rfl ?_
    refine J_aload_n (i := 0) (n := 15) dX4_takesRoute_14 rfl rfl rfl ?_
    refine T_get (k := 1) (n := 18) wk_X4 dX4_takesRoute_15 wf_X4_21 (by decide) (by decide) rfl rfl ?_
    refine J_aload_n (i := 0) (n := 19) dX4_takesRoute_18 rfl rfl rfl ?_
    refine T_get (k := 6) (n := 22) wk_X4 dX4_takesRoute_19 wf_X4_100 (by decide) (by decide) rfl rfl ?_
    rw [gs_cm]
    refine T_putI (k := 7) (n := 25) wk_X5 dX4_takesRoute_22 wf_X4_103 (by decide) (by decide) (kN_i _) rfl (Nat.le_of_ble_eq_true rfl) rfl rfl ?_
    rw [← gs_cm]
    refine J_iload_n (i := 1) (n := 26) dX4_takesRoute_25 rfl rfl rfl ?_
    refine J_iret dX4_takesRoute_26 rfl (by first | exact kN_0 | exact kN_1) ?_
    exact hqF e (by rw [bm_rou, hT]; rfl) v1 _ hA1 hf1
  | inr x =>
    refine J_aload_n (i := 0) (n := 1) dX4_takesRoute_0 rfl rfl rfl ?_
    refine J_aload_n (i := 0) (n := 2) dX4_takesRoute_1 rfl rfl rfl ?_
    refine T_get (k := 1) (n := 5) wk_X4 dX4_takesRoute_2 wf_X4_21 (by decide) (by decide) rfl rfl ?_
    refine T_getO (k := 4) (n := 8) wk_X5 dX4_takesRoute_5 wf_X4_97 (by decide) (by decide) rfl rfl ?_
    refine J_bipush (n := 10) dX4_takesRoute_8 kB_11 rfl ?_
    refine J_callVx (n := 13) wS_X4_takesRow (c_T_takesRowRoute (t0 := t0) (Q := fun r h => r = some (.int (nI 1)) ∧ ∃ v1 t1, mA v v1 [2, 3, 4, 6, 7, 8] ∧ v1.2.1 8 = v.2.1 8 ∧ v1.2.1 2 = nI x.1 ∧ v1.2.1 6 = nI x.2.1 ∧ (∀ q, q < x.2.1 → t1.1 4 q = nI (x.2.2 q)) ∧ ((∀ q, q ≠ 4 → t1.1 q = t0.1 q) ∧ t1.2 = t0.2) ∧ h = hp G (gs_set (gs_set σ 5 13 t1) 4 0 v1)) (d) ht htp (i := i) (r0 := D.1 4) hi h2 (fun q hq0 => absurd hq0 (Nat.not_lt_zero _)) (fun z hz => by rw [hT] at hz; cases hz; exact fun v1 t1 a1 a2 a3 a4 a5 a6 => ⟨rfl, v1, t1, a1, a2, a3, a4, a5, a6, rfl⟩) (fun z hz => (inl_ne hz hT).elim)) dX4_takesRoute_10 wm_X4_66 ⟨wM_X4_takesRow, wV_X4_takesRow⟩ rfl (T_recv (by decide) (by decide)) rfl rfl (Nat.le_of_ble_eq_true rfl) rfl (fun r h1 hq1 => ?_)
    obtain ⟨rfl, v1, t1, hA1, h81, h21, h61, hc1, hfr, rfl⟩ := hq1
    refine J_istore_n (i := 1) (n := 14) (lv' := [(0, _), (1, _)]) dX4_takesRoute_13 rfl (by decide) rfl rfl ?_
    refine J_aload_n (i := 0) (n := 15) dX4_takesRoute_14 rfl rfl rfl ?_
    refine T_get (k := 1) (n := 18) wk_X4 dX4_takesRoute_15 wf_X4_21 (by decide) (by decide) rfl rfl ?_
    refine J_aload_n (i := 0) (n := 19) dX4_takesRoute_18 rfl rfl rfl ?_
    refine T_get (k := 6) (n := 22) wk_X4 dX4_takesRoute_19 wf_X4_100 (by decide) (by decide) rfl rfl ?_
    rw [h61, gs_cm]
    refine T_putI (k := 7) (n := 25) wk_X5 dX4_takesRoute_22 wf_X4_103 (by decide) (by decide) (kN_i _) rfl (Nat.le_of_ble_eq_true rfl) rfl rfl ?_
    rw [← gs_cm]
    refine J_iload_n (i := 1) (n := 26) dX4_takesRoute_25 rfl rfl rfl ?_
    refine J_iret dX4_takesRoute_26 rfl (by first | exact kN_0 | exact kN_1) ?_
    exact hqS _ (by rw [bm_rou, hT]; rfl) v1 _ hA1 h81 h21 (hw.rou hc1 hfr.1 hfr.2)


set_option maxHeartbeats 4000000 in
set_option maxRecDepth 100000 in
theorem c_T_takesGlove {G : gx_G} {σ : gs_S} {Q : Option Value → gx_Hp → Prop} {v t0 : gs_Ob} {D : pw} (d : Nat) {t : Nat → Nat} {L : Nat} (ht : tOk t L) (htp : ctp σ t L) {i w : Nat} (hi : i ≤ L) (h2 : v.2.1 2 = nI i) (hw : wR t0 D) (hg : D.2.2 6 < 4) (hqS : ∀ x, (bm t L (tGlv t L D w i)) = .inr x → ∀ v1 t1, mA v v1 [2, 3, 4, 6, 7, 8] → v1.2.1 8 = v.2.1 8 → v1.2.1 2 = nI x.1 → wR t1 x.2 → Q (some (.int (nI 1))) (hp G (gs_set (gs_set σ 5 13 t1) 4 0 v1))) (hqF : ∀ e, (bm t L (tGlv t L D w i)) = .inl e → ∀ v1 t1, mA v v1 [2, 3, 4, 6, 7, 8] → cflt v1 e → Q (some (.int (nI 0))) (hp G (gs_set (gs_set σ 5 13 t1) 4 0 v1))) : gx_K G yX4_takesGlove mX4_takesGlove (d + 5) 0 0 [.ref (gs_a G 4 0 0), .int (nI w)] (hp G (gs_set (gs_set σ 5 13 t0) 4 0 v)) Q := by
  refine gx_K.of' (lv := [(0, _), (1, _)]) (by decide) rfl (by decide) (Nat.le_of_ble_eq_true rfl) rfl ?_
  have e6 := hw.2.2.2.2 6 (by decide) (by decide)
  cases hT : tNum t L 11 i with
  | inl e =>
    refine J_aload_n (i := 0) (n := 1) dX4_takesGlove_0 rfl rfl rfl ?_
    refine T_get (k := 1) (n := 4) wk_X4 dX4_takesGlove_1 wf_X4_21 (by decide) (by decide) rfl rfl ?_
    refine T_getO (k := 6) (n := 7) wk_X5 dX4_takesGlove_4 wf_X4_76 (by decide) (by decide) rfl rfl ?_
    rw [gs_neC (by decide), gs_same, e6]
    refine J_istore_n (i := 2) (n := 8) (lv' := [(0, _), (1, _), (2, _)]) dX4_takesGlove_7 rfl (by decide) rfl rfl ?_
    refine J_iload_n (i := 2) (n := 9) dX4_takesGlove_8 rfl rfl rfl ?_
    refine J_iconst (n := 10) dX4_takesGlove_9 kI_4 rfl ?_
    refine J_icmp_lt (tgt := 19) (n := 13) dX4_takesGlove_10 (by decide) rfl (fun c_10 => ?_) (fun c_10 => ?_)
    · refine J_aload_n (i := 0) (n := 20) dX4_takesGlove_19 rfl rfl rfl ?_
      refine T_get (k := 1) (n := 23) wk_X4 dX4_takesGlove_20 wf_X4_21 (by decide) (by decide) rfl rfl ?_
      refine T_getO (k := 1) (n := 26) wk_X5 dX4_takesGlove_23 wf_X4_79 (by decide) (by decide) rfl rfl ?_
      refine J_iload_n (i := 2) (n := 27) dX4_takesGlove_26 rfl rfl rfl ?_
      refine J_iload_n (i := 1) (n := 28) dX4_takesGlove_27 rfl rfl rfl ?_
      rw [gs_cm]
      refine T_iast (c := 5) (k := 1) (N := 4) (n := 29) dX4_takesGlove_28 (by decide) (by decide) (fun _ => rfl) (vp_in_nI (by omega) (by decide)) rfl ?_
      rw [nI_clamp (by omega), ← gs_cm]
      refine J_aload_n (i := 0) (n := 30) dX4_takesGlove_29 rfl rfl rfl ?_
      refine J_bipush (n := 32) dX4_takesGlove_30 kB_11 rfl ?_
      refine J_callVx (n := 35) wS_X4_takesNumber (c_T_takesNumber (Q := fun r h => r = some (.int (nI 0)) ∧ ∃ v1, mA v v1 [2, 3, 4, 7, 8] ∧ cflt v1 e ∧ h = hp G (gs_set (gs_set σ 5 13 (gs_w t0 1 (upd (t0.1 1) (D.2.2 6) (nI w)))) 4 0 v1)) (d) ht (htp.w _) (i := i) (most := 11) (by decide) hi h2 (fun z hz => (inl_ne hT hz).elim) (fun z hz => by rw [hT] at hz; cases hz; exact fun v1 a1 a2 => ⟨rfl, v1, a1, a2, rfl⟩)) dX4_takesGlove_32 wm_X4_82 ⟨wM_X4_takesNumber, wV_X4_takesNumber⟩ rfl (T_recv (by decide) (by decide)) rfl rfl (Nat.le_of_ble_eq_true rfl) rfl (fun r h1 hq1 => ?_)
      obtain ⟨rfl, v1, hA1, hf1, rfl⟩ := hq1
      refine J_if_ne (tgt := 40) (n := 38) dX4_takesGlove_35 (by decide) rfl (fun c_35 => ?_) (fun c_35 => ?_)
      · exact absurd rfl c_35
      · refine J_iconst (n := 39) dX4_takesGlove_38 kI_0 rfl ?_
        refine J_iret dX4_takesGlove_39 rfl (by first | exact kN_0 | exact kN_1) ?_
        exact hqF e (by unfold tGlv; rw [hT]; rfl) v1 _ (hA1.sub (by decide)) hf1
    · exfalso
      rw [nI_ltI (by omega) (by omega)] at c_10
      omega
  | inr x =>
    have hb := tNum_ok hT hi
    cases hT2 : tNum t L 20 x.1 with
    | inl e =>
      refine J_aload_n (i := 0) (n := 1) dX4_takesGlove_0 rfl rfl rfl ?_
      refine T_get (k := 1) (n := 4) wk_X4 dX4_takesGlove_1 wf_X4_21 (by decide) (by decide) rfl rfl ?_
      refine T_getO (k := 6) (n := 7) wk_X5 dX4_takesGlove_4 wf_X4_76 (by decide) (by decide) rfl rfl ?_
      rw [gs_neC (by decide), gs_same, e6]
      refine J_istore_n (i := 2) (n := 8) (lv' := [(0, _), (1, _), (2, _)]) dX4_takesGlove_7 rfl (by decide) rfl rfl ?_
      refine J_iload_n (i := 2) (n := 9) dX4_takesGlove_8 rfl rfl rfl ?_
      refine J_iconst (n := 10) dX4_takesGlove_9 kI_4 rfl ?_
      refine J_icmp_lt (tgt := 19) (n := 13) dX4_takesGlove_10 (by decide) rfl (fun c_10 => ?_) (fun c_10 => ?_)
      · refine J_aload_n (i := 0) (n := 20) dX4_takesGlove_19 rfl rfl rfl ?_
        refine T_get (k := 1) (n := 23) wk_X4 dX4_takesGlove_20 wf_X4_21 (by decide) (by decide) rfl rfl ?_
        refine T_getO (k := 1) (n := 26) wk_X5 dX4_takesGlove_23 wf_X4_79 (by decide) (by decide) rfl rfl ?_
        refine J_iload_n (i := 2) (n := 27) dX4_takesGlove_26 rfl rfl rfl ?_
        refine J_iload_n (i := 1) (n := 28) dX4_takesGlove_27 rfl rfl rfl ?_
        rw [gs_cm]
        refine T_iast (c := 5) (k := 1) (N := 4) (n := 29) dX4_takesGlove_28 (by decide) (by decide) (fun _ => rfl) (vp_in_nI (by omega) (by decide)) rfl ?_
        rw [nI_clamp (by omega), ← gs_cm]
        refine J_aload_n (i := 0) (n := 30) dX4_takesGlove_29 rfl rfl rfl ?_
        refine J_bipush (n := 32) dX4_takesGlove_30 kB_11 rfl ?_
        refine J_callVx (n := 35) wS_X4_takesNumber (c_T_takesNumber (Q := fun r h => r = some (.int (nI 1)) ∧ ∃ v1, mA v v1 [2, 3, 4, 7, 8] ∧ v1.2.1 8 = v.2.1 8 ∧ v1.2.1 2 = nI x.1 ∧ v1.2.1 4 = nI x.2 ∧ h = hp G (gs_set (gs_set σ 5 13 (gs_w t0 1 (upd (t0.1 1) (D.2.2 6) (nI w)))) 4 0 v1)) (d) ht (htp.w _) (i := i) (most := 11) (by decide) hi h2 (fun z hz => by rw [hT] at hz; cases hz; exact fun v1 a1 a2 a3 a4 => ⟨rfl, v1, a1, a2, a3, a4, rfl⟩) (fun z hz => (inl_ne hz hT).elim)) dX4_takesGlove_32 wm_X4_82 ⟨wM_X4_takesNumber, wV_X4_takesNumber⟩ rfl (T_recv (by decide) (by decide)) rfl rfl (Nat.le_of_ble_eq_true rfl) rfl (fun r h1 hq1 => ?_)
        obtain ⟨rfl, v1, hA1, h81, h21, h41, rfl⟩ := hq1
        refine J_if_ne (tgt := 40) (n := 38) dX4_takesGlove_35 (by decide) rfl (fun c_35 => ?_) (fun c_35 => ?_)
        · refine J_aload_n (i := 0) (n := 41) dX4_takesGlove_40 rfl rfl rfl ?_
          refine T_get (k := 1) (n := 44) wk_X4 dX4_takesGlove_41 wf_X4_21 (by decide) (by decide) rfl rfl ?_
          refine T_getO (k := 2) (n := 47) wk_X5 dX4_takesGlove_44 wf_X4_85 (by decide) (by decide) rfl rfl ?_
          refine J_iload_n (i := 2) (n := 48) dX4_takesGlove_47 rfl rfl rfl ?_
          refine J_aload_n (i := 0) (n := 49) dX4_takesGlove_48 rfl rfl rfl ?_
          refine T_get (k := 4) (n := 52) wk_X4 dX4_takesGlove_49 wf_X4_88 (by decide) (by decide) rfl rfl ?_
          rw [h41, gs_cm]
          refine T_iast (c := 5) (k := 2) (N := 4) (n := 53) dX4_takesGlove_52 (by decide) (by decide) (fun _ => rfl) (vp_in_nI (by omega) (by decide)) rfl ?_
          rw [nI_clamp (by omega), ← gs_cm]
          refine J_aload_n (i := 0) (n := 54) dX4_takesGlove_53 rfl rfl rfl ?_
          refine J_bipush (n := 56) dX4_takesGlove_54 kB_20 rfl ?_
          refine J_callVx (n := 59) wS_X4_takesNumber (c_T_takesNumber (Q := fun r h => r = some (.int (nI 0)) ∧ ∃ v2, mA v1 v2 [2, 3, 4, 7, 8] ∧ cflt v2 e ∧ h = hp G (gs_set (gs_set σ 5 13 (gs_w (gs_w t0 1 (upd (t0.1 1) (D.2.2 6) (nI w))) 2 (upd ((gs_w t0 1 (upd (t0.1 1) (D.2.2 6) (nI w))).1 2) (D.2.2 6) (nI x.2)))) 4 0 v2)) (d) ht (htp.w _) (i := x.1) (most := 20) (by decide) hb.2.1 h21 (fun z hz => (inl_ne hT2 hz).elim) (fun z hz => by rw [hT2] at hz; cases hz; exact fun v1 a1 a2 => ⟨rfl, v1, a1, a2, rfl⟩)) dX4_takesGlove_56 wm_X4_82 ⟨wM_X4_takesNumber, wV_X4_takesNumber⟩ rfl (T_recv (by decide) (by decide)) rfl rfl (Nat.le_of_ble_eq_true rfl) rfl (fun r h1 hq1 => ?_)
          obtain ⟨rfl, v2, hA2, hf2, rfl⟩ := hq1
          refine J_if_ne (tgt := 64) (n := 62) dX4_takesGlove_59 (by decide) rfl (fun c_59 => ?_) (fun c_59 => ?_)
          · exact absurd rfl c_59
          · refine J_iconst (n := 63) dX4_takesGlove_62 kI_0 rfl ?_
            refine J_iret dX4_takesGlove_63 rfl (by first | exact kN_0 | exact kN_1) ?_
            exact hqF e (by unfold tGlv; rw [hT]; show bm t L (bnd (tNum t L 20 x.1) _) = _; rw [hT2]; rfl) v2 _ ((hA1.tr hA2).sub (by decide)) hf2
        · exact absurd c_35 (by decide +kernel)
      · exfalso
        rw [nI_ltI (by omega) (by omega)] at c_10
        omega
    | inr y =>
      have hb2 := tNum_ok hT2 hb.2.1
      cases hM : tMark t L y.1 with
      | inl e =>
        refine J_aload_n (i := 0) (n := 1) dX4_takesGlove_0 rfl rfl rfl ?_
        refine T_get (k := 1) (n := 4) wk_X4 dX4_takesGlove_1 wf_X4_21 (by decide) (by decide) rfl rfl ?_
        refine T_getO (k := 6) (n := 7) wk_X5 dX4_takesGlove_4 wf_X4_76 (by decide) (by decide) rfl rfl ?_
        rw [gs_neC (by decide), gs_same, e6]
        refine J_istore_n (i := 2) (n := 8) (lv' := [(0, _), (1, _), (2, _)]) dX4_takesGlove_7 rfl (by decide) rfl rfl ?_
        refine J_iload_n (i := 2) (n := 9) dX4_takesGlove_8 rfl rfl rfl ?_
        refine J_iconst (n := 10) dX4_takesGlove_9 kI_4 rfl ?_
        refine J_icmp_lt (tgt := 19) (n := 13) dX4_takesGlove_10 (by decide) rfl (fun c_10 => ?_) (fun c_10 => ?_)
        · refine J_aload_n (i := 0) (n := 20) dX4_takesGlove_19 rfl rfl rfl ?_
          refine T_get (k := 1) (n := 23) wk_X4 dX4_takesGlove_20 wf_X4_21 (by decide) (by decide) rfl rfl ?_
          refine T_getO (k := 1) (n := 26) wk_X5 dX4_takesGlove_23 wf_X4_79 (by decide) (by decide) rfl rfl ?_
          refine J_iload_n (i := 2) (n := 27) dX4_takesGlove_26 rfl rfl rfl ?_
          refine J_iload_n (i := 1) (n := 28) dX4_takesGlove_27 rfl rfl rfl ?_
          rw [gs_cm]
          refine T_iast (c := 5) (k := 1) (N := 4) (n := 29) dX4_takesGlove_28 (by decide) (by decide) (fun _ => rfl) (vp_in_nI (by omega) (by decide)) rfl ?_
          rw [nI_clamp (by omega), ← gs_cm]
          refine J_aload_n (i := 0) (n := 30) dX4_takesGlove_29 rfl rfl rfl ?_
          refine J_bipush (n := 32) dX4_takesGlove_30 kB_11 rfl ?_
          refine J_callVx (n := 35) wS_X4_takesNumber (c_T_takesNumber (Q := fun r h => r = some (.int (nI 1)) ∧ ∃ v1, mA v v1 [2, 3, 4, 7, 8] ∧ v1.2.1 8 = v.2.1 8 ∧ v1.2.1 2 = nI x.1 ∧ v1.2.1 4 = nI x.2 ∧ h = hp G (gs_set (gs_set σ 5 13 (gs_w t0 1 (upd (t0.1 1) (D.2.2 6) (nI w)))) 4 0 v1)) (d) ht (htp.w _) (i := i) (most := 11) (by decide) hi h2 (fun z hz => by rw [hT] at hz; cases hz; exact fun v1 a1 a2 a3 a4 => ⟨rfl, v1, a1, a2, a3, a4, rfl⟩) (fun z hz => (inl_ne hz hT).elim)) dX4_takesGlove_32 wm_X4_82 ⟨wM_X4_takesNumber, wV_X4_takesNumber⟩ rfl (T_recv (by decide) (by decide)) rfl rfl (Nat.le_of_ble_eq_true rfl) rfl (fun r h1 hq1 => ?_)
          obtain ⟨rfl, v1, hA1, h81, h21, h41, rfl⟩ := hq1
          refine J_if_ne (tgt := 40) (n := 38) dX4_takesGlove_35 (by decide) rfl (fun c_35 => ?_) (fun c_35 => ?_)
          · refine J_aload_n (i := 0) (n := 41) dX4_takesGlove_40 rfl rfl rfl ?_
            refine T_get (k := 1) (n := 44) wk_X4 dX4_takesGlove_41 wf_X4_21 (by decide) (by decide) rfl rfl ?_
            refine T_getO (k := 2) (n := 47) wk_X5 dX4_takesGlove_44 wf_X4_85 (by decide) (by decide) rfl rfl ?_
            refine J_iload_n (i := 2) (n := 48) dX4_takesGlove_47 rfl rfl rfl ?_
            refine J_aload_n (i := 0) (n := 49) dX4_takesGlove_48 rfl rfl rfl ?_
            refine T_get (k := 4) (n := 52) wk_X4 dX4_takesGlove_49 wf_X4_88 (by decide) (by decide) rfl rfl ?_
            rw [h41, gs_cm]
            refine T_iast (c := 5) (k := 2) (N := 4) (n := 53) dX4_takesGlove_52 (by decide) (by decide) (fun _ => rfl) (vp_in_nI (by omega) (by decide)) rfl ?_
            rw [nI_clamp (by omega), ← gs_cm]
            refine J_aload_n (i := 0) (n := 54) dX4_takesGlove_53 rfl rfl rfl ?_
            refine J_bipush (n := 56) dX4_takesGlove_54 kB_20 rfl ?_
            refine J_callVx (n := 59) wS_X4_takesNumber (c_T_takesNumber (Q := fun r h => r = some (.int (nI 1)) ∧ ∃ v2, mA v1 v2 [2, 3, 4, 7, 8] ∧ v2.2.1 8 = v1.2.1 8 ∧ v2.2.1 2 = nI y.1 ∧ v2.2.1 4 = nI y.2 ∧ h = hp G (gs_set (gs_set σ 5 13 (gs_w (gs_w t0 1 (upd (t0.1 1) (D.2.2 6) (nI w))) 2 (upd ((gs_w t0 1 (upd (t0.1 1) (D.2.2 6) (nI w))).1 2) (D.2.2 6) (nI x.2)))) 4 0 v2)) (d) ht (htp.w _) (i := x.1) (most := 20) (by decide) hb.2.1 h21 (fun z hz => by rw [hT2] at hz; cases hz; exact fun v1 a1 a2 a3 a4 => ⟨rfl, v1, a1, a2, a3, a4, rfl⟩) (fun z hz => (inl_ne hz hT2).elim)) dX4_takesGlove_56 wm_X4_82 ⟨wM_X4_takesNumber, wV_X4_takesNumber⟩ rfl (T_recv (by decide) (by decide)) rfl rfl (Nat.le_of_ble_eq_true rfl) rfl (fun r h1 hq1 => ?_)
            obtain ⟨rfl, v2, hA2, h82, h22, h42, rfl⟩ := hq1
            refine J_if_ne (tgt := 64) (n := 62) dX4_takesGlove_59 (by decide) rfl (fun c_59 => ?_) (fun c_59 => ?_)
            · refine J_aload_n (i := 0) (n := 65) dX4_takesGlove_64 rfl rfl rfl ?_
              refine T_get (k := 1) (n := 68) wk_X4 dX4_takesGlove_65 wf_X4_21 (by decide) (by decide) rfl rfl ?_
              refine T_getO (k := 3) (n := 71) wk_X5 dX4_takesGlove_68 wf_X4_91 (by decide) (by decide) rfl rfl ?_
              refine J_iload_n (i := 2) (n := 72) dX4_takesGlove_71 rfl rfl rfl ?_
              refine J_aload_n (i := 0) (n := 73) dX4_takesGlove_72 rfl rfl rfl ?_
              refine T_get (k := 4) (n := 76) wk_X4 dX4_takesGlove_73 wf_X4_88 (by decide) (by decide) rfl rfl ?_
              rw [h42, gs_cm]
              refine T_iast (c := 5) (k := 3) (N := 4) (n := 77) dX4_takesGlove_76 (by decide) (by decide) (fun _ => rfl) (vp_in_nI (by omega) (by decide)) rfl ?_
              rw [nI_clamp (by omega), ← gs_cm]
              refine J_aload_n (i := 0) (n := 78) dX4_takesGlove_77 rfl rfl rfl ?_
              refine T_get (k := 1) (n := 81) wk_X4 dX4_takesGlove_78 wf_X4_21 (by decide) (by decide) rfl rfl ?_
              refine J_dup (n := 82) dX4_takesGlove_81 rfl rfl ?_
              refine T_getO (k := 6) (n := 85) wk_X5 dX4_takesGlove_82 wf_X4_76 (by decide) (by decide) rfl rfl ?_
              rw [gs_neC (by decide), gs_same, show (gs_w (gs_w (gs_w t0 1 (upd (t0.1 1) (D.2.2 6) (nI w))) 2 (upd ((gs_w t0 1 (upd (t0.1 1) (D.2.2 6) (nI w))).1 2) (D.2.2 6) (nI x.2))) 3 (upd ((gs_w (gs_w t0 1 (upd (t0.1 1) (D.2.2 6) (nI w))) 2 (upd ((gs_w t0 1 (upd (t0.1 1) (D.2.2 6) (nI w))).1 2) (D.2.2 6) (nI x.2))).1 3) (D.2.2 6) (nI y.2))).2.1 6 = nI (D.2.2 6) from e6]
              refine J_iconst (n := 86) dX4_takesGlove_85 kI_1 rfl ?_
              refine J_iadd (n := 87) dX4_takesGlove_86 rfl ?_
              rw [nI_add, gs_cm]
              refine T_putI (k := 6) (n := 90) wk_X5 dX4_takesGlove_87 wf_X4_76 (by decide) (by decide) (kN_i _) rfl (Nat.le_of_ble_eq_true rfl) rfl rfl ?_
              rw [← gs_cm]
              refine J_aload_n (i := 0) (n := 91) dX4_takesGlove_90 rfl rfl rfl ?_
              refine J_callVx (n := 94) wS_X4_takesMark (c_T_takesMark (Q := fun r h => r = some (.int (nI 0)) ∧ ∃ v3, mA v2 v3 [2, 3, 4, 7, 8] ∧ cflt v3 e ∧ h = hp G (gs_set (gs_set σ 5 13 (gs_f (gs_w (gs_w (gs_w t0 1 (upd (t0.1 1) (D.2.2 6) (nI w))) 2 (upd ((gs_w t0 1 (upd (t0.1 1) (D.2.2 6) (nI w))).1 2) (D.2.2 6) (nI x.2))) 3 (upd ((gs_w (gs_w t0 1 (upd (t0.1 1) (D.2.2 6) (nI w))) 2 (upd ((gs_w t0 1 (upd (t0.1 1) (D.2.2 6) (nI w))).1 2) (D.2.2 6) (nI x.2))).1 3) (D.2.2 6) (nI y.2))) 6 (nI (D.2.2 6 + 1)))) 4 0 v3)) (d) ht (htp.w _) (i := y.1) hb2.2.1 h22 (fun z hz => (inl_ne hM hz).elim) (fun z hz => by rw [hM] at hz; cases hz; exact fun v1 a1 a2 => ⟨rfl, v1, a1, a2, rfl⟩)) dX4_takesGlove_91 wm_X4_94 ⟨wM_X4_takesMark, wV_X4_takesMark⟩ rfl (T_recv (by decide) (by decide)) rfl rfl (Nat.le_of_ble_eq_true rfl) rfl (fun r h1 hq1 => ?_)
              obtain ⟨rfl, v3, hA3, hf3, rfl⟩ := hq1
              refine J_iret dX4_takesGlove_94 rfl (by first | exact kN_0 | exact kN_1) ?_
              exact hqF e (by unfold tGlv; rw [hT]; show bm t L (bnd (tNum t L 20 x.1) _) = _; rw [hT2]; show bnd (tMark t L y.1) _ = _; rw [hM]; rfl) v3 _ (((hA1.tr hA2).tr hA3).sub (by decide)) hf3
            · exact absurd c_59 (by decide +kernel)
          · exact absurd c_35 (by decide +kernel)
        · exfalso
          rw [nI_ltI (by omega) (by omega)] at c_10
          omega
      | inr n1 =>
        refine J_aload_n (i := 0) (n := 1) dX4_takesGlove_0 rfl rfl rfl ?_
        refine T_get (k := 1) (n := 4) wk_X4 dX4_takesGlove_1 wf_X4_21 (by decide) (by decide) rfl rfl ?_
        refine T_getO (k := 6) (n := 7) wk_X5 dX4_takesGlove_4 wf_X4_76 (by decide) (by decide) rfl rfl ?_
        rw [gs_neC (by decide), gs_same, e6]
        refine J_istore_n (i := 2) (n := 8) (lv' := [(0, _), (1, _), (2, _)]) dX4_takesGlove_7 rfl (by decide) rfl rfl ?_
        refine J_iload_n (i := 2) (n := 9) dX4_takesGlove_8 rfl rfl rfl ?_
        refine J_iconst (n := 10) dX4_takesGlove_9 kI_4 rfl ?_
        refine J_icmp_lt (tgt := 19) (n := 13) dX4_takesGlove_10 (by decide) rfl (fun c_10 => ?_) (fun c_10 => ?_)
        · refine J_aload_n (i := 0) (n := 20) dX4_takesGlove_19 rfl rfl rfl ?_
          refine T_get (k := 1) (n := 23) wk_X4 dX4_takesGlove_20 wf_X4_21 (by decide) (by decide) rfl rfl ?_
          refine T_getO (k := 1) (n := 26) wk_X5 dX4_takesGlove_23 wf_X4_79 (by decide) (by decide) rfl rfl ?_
          refine J_iload_n (i := 2) (n := 27) dX4_takesGlove_26 rfl rfl rfl ?_
          refine J_iload_n (i := 1) (n := 28) dX4_takesGlove_27 rfl rfl rfl ?_
          rw [gs_cm]
          refine T_iast (c := 5) (k := 1) (N := 4) (n := 29) dX4_takesGlove_28 (by decide) (by decide) (fun _ => rfl) (vp_in_nI (by omega) (by decide)) rfl ?_
          rw [nI_clamp (by omega), ← gs_cm]
          refine J_aload_n (i := 0) (n := 30) dX4_takesGlove_29 rfl rfl rfl ?_
          refine J_bipush (n := 32) dX4_takesGlove_30 kB_11 rfl ?_
          refine J_callVx (n := 35) wS_X4_takesNumber (c_T_takesNumber (Q := fun r h => r = some (.int (nI 1)) ∧ ∃ v1, mA v v1 [2, 3, 4, 7, 8] ∧ v1.2.1 8 = v.2.1 8 ∧ v1.2.1 2 = nI x.1 ∧ v1.2.1 4 = nI x.2 ∧ h = hp G (gs_set (gs_set σ 5 13 (gs_w t0 1 (upd (t0.1 1) (D.2.2 6) (nI w)))) 4 0 v1)) (d) ht (htp.w _) (i := i) (most := 11) (by decide) hi h2 (fun z hz => by rw [hT] at hz; cases hz; exact fun v1 a1 a2 a3 a4 => ⟨rfl, v1, a1, a2, a3, a4, rfl⟩) (fun z hz => (inl_ne hz hT).elim)) dX4_takesGlove_32 wm_X4_82 ⟨wM_X4_takesNumber, wV_X4_takesNumber⟩ rfl (T_recv (by decide) (by decide)) rfl rfl (Nat.le_of_ble_eq_true rfl) rfl (fun r h1 hq1 => ?_)
          obtain ⟨rfl, v1, hA1, h81, h21, h41, rfl⟩ := hq1
          refine J_if_ne (tgt := 40) (n := 38) dX4_takesGlove_35 (by decide) rfl (fun c_35 => ?_) (fun c_35 => ?_)
          · refine J_aload_n (i := 0) (n := 41) dX4_takesGlove_40 rfl rfl rfl ?_
            refine T_get (k := 1) (n := 44) wk_X4 dX4_takesGlove_41 wf_X4_21 (by decide) (by decide) rfl rfl ?_
            refine T_getO (k := 2) (n := 47) wk_X5 dX4_takesGlove_44 wf_X4_85 (by decide) (by decide) rfl rfl ?_
            refine J_iload_n (i := 2) (n := 48) dX4_takesGlove_47 rfl rfl rfl ?_
            refine J_aload_n (i := 0) (n := 49) dX4_takesGlove_48 rfl rfl rfl ?_
            refine T_get (k := 4) (n := 52) wk_X4 dX4_takesGlove_49 wf_X4_88 (by decide) (by decide) rfl rfl ?_
            rw [h41, gs_cm]
            refine T_iast (c := 5) (k := 2) (N := 4) (n := 53) dX4_takesGlove_52 (by decide) (by decide) (fun _ => rfl) (vp_in_nI (by omega) (by decide)) rfl ?_
            rw [nI_clamp (by omega), ← gs_cm]
            refine J_aload_n (i := 0) (n := 54) dX4_takesGlove_53 rfl rfl rfl ?_
            refine J_bipush (n := 56) dX4_takesGlove_54 kB_20 rfl ?_
            refine J_callVx (n := 59) wS_X4_takesNumber (c_T_takesNumber (Q := fun r h => r = some (.int (nI 1)) ∧ ∃ v2, mA v1 v2 [2, 3, 4, 7, 8] ∧ v2.2.1 8 = v1.2.1 8 ∧ v2.2.1 2 = nI y.1 ∧ v2.2.1 4 = nI y.2 ∧ h = hp G (gs_set (gs_set σ 5 13 (gs_w (gs_w t0 1 (upd (t0.1 1) (D.2.2 6) (nI w))) 2 (upd ((gs_w t0 1 (upd (t0.1 1) (D.2.2 6) (nI w))).1 2) (D.2.2 6) (nI x.2)))) 4 0 v2)) (d) ht (htp.w _) (i := x.1) (most := 20) (by decide) hb.2.1 h21 (fun z hz => by rw [hT2] at hz; cases hz; exact fun v1 a1 a2 a3 a4 => ⟨rfl, v1, a1, a2, a3, a4, rfl⟩) (fun z hz => (inl_ne hz hT2).elim)) dX4_takesGlove_56 wm_X4_82 ⟨wM_X4_takesNumber, wV_X4_takesNumber⟩ rfl (T_recv (by decide) (by decide)) rfl rfl (Nat.le_of_ble_eq_true rfl) rfl (fun r h1 hq1 => ?_)
            obtain ⟨rfl, v2, hA2, h82, h22, h42, rfl⟩ := hq1
            refine J_if_ne (tgt := 64) (n := 62) dX4_takesGlove_59 (by decide) rfl (fun c_59 => ?_) (fun c_59 => ?_)
            · refine J_aload_n (i := 0) (n := 65) dX4_takesGlove_64 rfl rfl rfl ?_
              refine T_get (k := 1) (n := 68) wk_X4 dX4_takesGlove_65 wf_X4_21 (by decide) (by decide) rfl rfl ?_
              refine T_getO (k := 3) (n := 71) wk_X5 dX4_takesGlove_68 wf_X4_91 (by decide) (by decide) rfl rfl ?_
              refine J_iload_n (i := 2) (n := 72) dX4_takesGlove_71 rfl rfl rfl ?_
              refine J_aload_n (i := 0) (n := 73) dX4_takesGlove_72 rfl rfl rfl ?_
              refine T_get (k := 4) (n := 76) wk_X4 dX4_takesGlove_73 wf_X4_88 (by decide) (by decide) rfl rfl ?_
              rw [h42, gs_cm]
              refine T_iast (c := 5) (k := 3) (N := 4) (n := 77) dX4_takesGlove_76 (by decide) (by decide) (fun _ => rfl) (vp_in_nI (by omega) (by decide)) rfl ?_
              rw [nI_clamp (by omega), ← gs_cm]
              refine J_aload_n (i := 0) (n := 78) dX4_takesGlove_77 rfl rfl rfl ?_
              refine T_get (k := 1) (n := 81) wk_X4 dX4_takesGlove_78 wf_X4_21 (by decide) (by decide) rfl rfl ?_
              refine J_dup (n := 82) dX4_takesGlove_81 rfl rfl ?_
              refine T_getO (k := 6) (n := 85) wk_X5 dX4_takesGlove_82 wf_X4_76 (by decide) (by decide) rfl rfl ?_
              rw [gs_neC (by decide), gs_same, show (gs_w (gs_w (gs_w t0 1 (upd (t0.1 1) (D.2.2 6) (nI w))) 2 (upd ((gs_w t0 1 (upd (t0.1 1) (D.2.2 6) (nI w))).1 2) (D.2.2 6) (nI x.2))) 3 (upd ((gs_w (gs_w t0 1 (upd (t0.1 1) (D.2.2 6) (nI w))) 2 (upd ((gs_w t0 1 (upd (t0.1 1) (D.2.2 6) (nI w))).1 2) (D.2.2 6) (nI x.2))).1 3) (D.2.2 6) (nI y.2))).2.1 6 = nI (D.2.2 6) from e6]
              refine J_iconst (n := 86) dX4_takesGlove_85 kI_1 rfl ?_
              refine J_iadd (n := 87) dX4_takesGlove_86 rfl ?_
              rw [nI_add, gs_cm]
              refine T_putI (k := 6) (n := 90) wk_X5 dX4_takesGlove_87 wf_X4_76 (by decide) (by decide) (kN_i _) rfl (Nat.le_of_ble_eq_true rfl) rfl rfl ?_
              rw [← gs_cm]
              refine J_aload_n (i := 0) (n := 91) dX4_takesGlove_90 rfl rfl rfl ?_
              refine J_callVx (n := 94) wS_X4_takesMark (c_T_takesMark (Q := fun r h => r = some (.int (nI 1)) ∧ ∃ v3, mA v2 v3 [2, 3, 4, 7, 8] ∧ v3.2.1 8 = v2.2.1 8 ∧ v3.2.1 2 = nI n1 ∧ h = hp G (gs_set (gs_set σ 5 13 (gs_f (gs_w (gs_w (gs_w t0 1 (upd (t0.1 1) (D.2.2 6) (nI w))) 2 (upd ((gs_w t0 1 (upd (t0.1 1) (D.2.2 6) (nI w))).1 2) (D.2.2 6) (nI x.2))) 3 (upd ((gs_w (gs_w t0 1 (upd (t0.1 1) (D.2.2 6) (nI w))) 2 (upd ((gs_w t0 1 (upd (t0.1 1) (D.2.2 6) (nI w))).1 2) (D.2.2 6) (nI x.2))).1 3) (D.2.2 6) (nI y.2))) 6 (nI (D.2.2 6 + 1)))) 4 0 v3)) (d) ht (htp.w _) (i := y.1) hb2.2.1 h22 (fun z hz => by rw [hM] at hz; cases hz; exact fun v1 a1 a2 a3 => ⟨rfl, v1, a1, a2, a3, rfl⟩) (fun z hz => (inl_ne hz hM).elim)) dX4_takesGlove_91 wm_X4_94 ⟨wM_X4_takesMark, wV_X4_takesMark⟩ rfl (T_recv (by decide) (by decide)) rfl rfl (Nat.le_of_ble_eq_true rfl) rfl (fun r h1 hq1 => ?_)
              obtain ⟨rfl, v3, hA3, h83, h23, rfl⟩ := hq1
              refine J_iret dX4_takesGlove_94 rfl (by first | exact kN_0 | exact kN_1) ?_
              refine hqS (n1, pw_gl D w x.2 y.2) (by unfold tGlv; rw [hT]; show bm t L (bnd (tNum t L 20 x.1) _) = _; rw [hT2]; show bnd (tMark t L y.1) _ = _; rw [hM]; rfl) v3 _ (((hA1.tr hA2).tr hA3).sub (by decide)) (by rw [h83, h82, h81]) h23 ?_
              exact (((hw.row 1 (D.2.2 6) w).row 2 (D.2.2 6) x.2).row 3 (D.2.2 6) y.2).gl ⟨by simp [pw_a, gs_w, va_up, upd], by simp [pw_a, gs_w, va_up, upd], by simp [pw_a, gs_w, va_up, upd]⟩
            · exact absurd c_59 (by decide +kernel)
          · exact absurd c_35 (by decide +kernel)
        · exfalso
          rw [nI_ltI (by omega) (by omega)] at c_10
          omega


set_option maxHeartbeats 4000000 in
set_option maxRecDepth 100000 in
theorem c_T_takesGlove5 {G : gx_G} {σ : gs_S} {Q : Option Value → gx_Hp → Prop} {v t0 : gs_Ob} {D : pw} (d : Nat) {w : Nat} (hw : wR t0 D) (hg : ¬ D.2.2 6 < 4) (hg4 : D.2.2 6 ≤ 4) (hqF : Q (some (.int (nI 0))) (hp G (gs_set (gs_set σ 5 13 t0) 4 0 (gs_f v 8 (nI 5))))) : gx_K G yX4_takesGlove mX4_takesGlove (d + 5) 0 0 [.ref (gs_a G 4 0 0), .int (nI w)] (hp G (gs_set (gs_set σ 5 13 t0) 4 0 v)) Q := by
  refine gx_K.of' (lv := [(0, _), (1, _)]) (by decide) rfl (by decide) (Nat.le_of_ble_eq_true rfl) rfl ?_
  have e6 := hw.2.2.2.2 6 (by decide) (by decide)
  refine J_aload_n (i := 0) (n := 1) dX4_takesGlove_0 rfl rfl rfl ?_
  refine T_get (k := 1) (n := 4) wk_X4 dX4_takesGlove_1 wf_X4_21 (by decide) (by decide) rfl rfl ?_
  refine T_getO (k := 6) (n := 7) wk_X5 dX4_takesGlove_4 wf_X4_76 (by decide) (by decide) rfl rfl ?_
  rw [gs_neC (by decide), gs_same, e6]
  refine J_istore_n (i := 2) (n := 8) (lv' := [(0, _), (1, _), (2, _)]) dX4_takesGlove_7 rfl (by decide) rfl rfl ?_
  refine J_iload_n (i := 2) (n := 9) dX4_takesGlove_8 rfl rfl rfl ?_
  refine J_iconst (n := 10) dX4_takesGlove_9 kI_4 rfl ?_
  refine J_icmp_lt (tgt := 19) (n := 13) dX4_takesGlove_10 (by decide) rfl (fun c_10 => ?_) (fun c_10 => ?_)
  · exfalso
    rw [nI_ltI (by omega) (by omega)] at c_10
    omega
  · refine J_aload_n (i := 0) (n := 14) dX4_takesGlove_13 rfl rfl rfl ?_
    refine J_iconst (n := 15) dX4_takesGlove_14 kI_5 rfl ?_
    refine J_callVr (n := 18) wS_X4_refuses (c_T_refuses (d + 4) (nI 5) ⟨rfl, rfl⟩) dX4_takesGlove_15 wm_X4_55 ⟨wM_X4_refuses, wV_X4_refuses⟩ rfl (T_recv (by decide) (by decide)) rfl rfl (Nat.le_of_ble_eq_true rfl) rfl ?_
    refine J_iret dX4_takesGlove_18 rfl (by first | exact kN_0 | exact kN_1) ?_
    exact hqF

