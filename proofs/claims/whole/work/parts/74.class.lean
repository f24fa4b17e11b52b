def tdb (td : Nat → Bool) : Nat := 16 * (td 4).toNat + 32 * (td 5).toNat + 64 * (td 6).toNat
theorem tt_all : ∀ b4 b5 b6 : Bool, ∀ w, w < 7 → 4 ≤ w → ((nI (16 * b4.toNat + 32 * b5.toNat + 64 * b6.toNat) >>> (nI w &&& 31)) &&& nI 1 = nI 1 ↔ (if w = 4 then b4 else if w = 5 then b5 else b6) = true) := by decide +kernel
theorem tt_bit (td : Nat → Bool) {w : Nat} (h : w < 7) (h4 : 4 ≤ w) : ((nI (tdb td) >>> (nI w &&& 31)) &&& nI 1 = nI 1 ↔ td w = true) := by
  have h0 := tt_all (td 4) (td 5) (td 6) w h h4
  rcases (show w = 4 ∨ w = 5 ∨ w = 6 by omega) with rfl | rfl | rfl <;> exact h0
theorem ts_all : ∀ b4 b5 b6 : Bool, ∀ w, w < 7 → 4 ≤ w → nI (16 * b4.toNat + 32 * b5.toNat + 64 * b6.toNat) ||| (nI 1 <<< (nI w &&& 31)) = nI (16 * (if 4 = w then true else b4).toNat + 32 * (if 5 = w then true else b5).toNat + 64 * (if 6 = w then true else b6).toNat) := by decide +kernel
theorem ts_bit (td : Nat → Bool) {w : Nat} (h : w < 7) (h4 : 4 ≤ w) : nI (tdb td) ||| (nI 1 <<< (nI w &&& 31)) = nI (tdb (tdn td w)) := ts_all _ _ _ w h h4
theorem tdb_lo {td : Nat → Bool} {w : Nat} (h : w < 4) : tdb (tdn td w) = tdb td := by
  unfold tdb
  rw [tdn_n (by omega), tdn_n (by omega), tdn_n (by omega)]
set_option maxHeartbeats 4000000 in
set_option maxRecDepth 100000 in
theorem c_T_takesLine {G : gx_G} {σ : gs_S} {Q : Option Value → gx_Hp → Prop} {v t0 : gs_Ob} {D : pw} {td : Nat → Bool} (d : Nat) {t : Nat → Nat} {L : Nat} (ht : tOk t L) (htp : ctp σ t L) {i : Nat} (hiL : i ≤ L) (hk4 : ¬ (tk t L i).1 = 4) (hx : ctk v t L i) (hw : wR t0 D) (hg4 : D.2.2 6 ≤ 4) (h5 : v.2.1 5 = nI (tdb td)) (hqS : ∀ x, (tLine t L D td (tw t L i) (tb t L i) (tk t L i).2.1) = .inr x → ∀ v1 t1, mA v v1 [2, 3, 4, 5, 6, 7, 8] → v1.2.1 8 = v.2.1 8 → v1.2.1 2 = nI x.1 → v1.2.1 5 = nI (tdb (tdn td (tw t L i))) → wR t1 x.2 → Q (some (.int (nI 1))) (hp G (gs_set (gs_set σ 5 13 t1) 4 0 v1))) (hqF : ∀ e, (tLine t L D td (tw t L i) (tb t L i) (tk t L i).2.1) = .inl e → ∀ v1 t1, mA v v1 [2, 3, 4, 5, 6, 7, 8] → cflt v1 e → Q (some (.int (nI 0))) (hp G (gs_set (gs_set σ 5 13 t1) 4 0 v1))) : gx_K G yX4_takesLine mX4_takesLine (d + 6) 0 0 [.ref (gs_a G 4 0 0)] (hp G (gs_set (gs_set σ 5 13 t0) 4 0 v)) Q := by
  obtain ⟨h7, h2, h3, -⟩ := hx
  have hkk := tk_k (t := t) hiL
  have htl := tk_le hiL hk4
  have hnL := htl.2
  have hw7 : tw t L i ≤ 7 := by
    unfold tw
    split
    · exact wd_le _ _ _
    · exact Nat.le_refl _
  have k17 : gx_J G mX4_takesLine (d + 6) 0 0 Q 17 [(0, .ref (gs_a G 4 0 0))] [.int (nI (tw t L i))] (hp G (gs_set (gs_set σ 5 13 t0) 4 0 v)) := by
    generalize hwd : tw t L i = w at hqS hqF hw7 ⊢
    rcases (show w = 7 ∨ (w < 4 ∧ ¬ D.2.2 6 < 4) ∨ (w < 4 ∧ D.2.2 6 < 4) ∨ (4 ≤ w ∧ w < 7 ∧ td w = true) ∨ (4 ≤ w ∧ w < 7 ∧ td w = false) by
      by_cases c7 : w = 7
      · exact Or.inl c7
      · by_cases c4 : w < 4
        · by_cases cg : D.2.2 6 < 4
          · exact Or.inr (Or.inr (Or.inl ⟨c4, cg⟩))
          · exact Or.inr (Or.inl ⟨c4, cg⟩)
        · cases ct : td w with
          | true => exact Or.inr (Or.inr (Or.inr (Or.inl ⟨by omega, by omega, rfl⟩)))
          | false => exact Or.inr (Or.inr (Or.inr (Or.inr ⟨by omega, by omega, rfl⟩)))) with c7 | ⟨c4, cg⟩ | ⟨c4, cg⟩ | ⟨c4, c7, ct⟩ | ⟨c4, c7, ct⟩
    · have hT : tLine t L D td w (tb t L i) (tk t L i).2.1 = .inl (2, tb t L i) := by
        unfold tLine tHead
        rw [if_pos (by omega)]
      refine J_istore_n (i := 1) (n := 18) (lv' := [(0, _), (1, _)]) dX4_takesLine_17 rfl (by decide) rfl rfl ?_
      refine J_iload_n (i := 1) (n := 19) dX4_takesLine_18 rfl rfl rfl ?_
      refine J_bipush (n := 21) dX4_takesLine_19 kB_7 rfl ?_
      refine J_icmp_lt (tgt := 30) (n := 24) dX4_takesLine_21 (by decide) rfl (fun c_21 => ?_) (fun c_21 => ?_)
      · exfalso
        rw [nI_ltI (by omega) (by omega)] at c_21
        omega
      · refine J_aload_n (i := 0) (n := 25) dX4_takesLine_24 rfl rfl rfl ?_
        refine J_iconst (n := 26) dX4_takesLine_25 kI_2 rfl ?_
        refine J_callVr (n := 29) wS_X4_refuses (c_T_refuses (d + 5) (nI 2) ⟨rfl, rfl⟩) dX4_takesLine_26 wm_X4_55 ⟨wM_X4_refuses, wV_X4_refuses⟩ rfl (T_recv (by decide) (by decide)) rfl rfl (Nat.le_of_ble_eq_true rfl) rfl ?_
        refine J_iret dX4_takesLine_29 rfl (by first | exact kN_0 | exact kN_1) ?_
        exact hqF (2, tb t L i) hT _ t0 ((mA.rf _ _).f _ (by decide)) ⟨gsf_s _ _ _, by rw [gsf_n _ _ (by decide)]; exact h7⟩
    · have hT : tLine t L D td w (tb t L i) (tk t L i).2.1 = .inl (5, tb t L i) := by
        unfold tLine tHead
        rw [if_neg (by omega), if_pos c4, if_pos (by omega)]
      refine J_istore_n (i := 1) (n := 18) (lv' := [(0, _), (1, _)]) dX4_takesLine_17 rfl (by decide) rfl rfl ?_
      refine J_iload_n (i := 1) (n := 19) dX4_takesLine_18 rfl rfl rfl ?_
      refine J_bipush (n := 21) dX4_takesLine_19 kB_7 rfl ?_
      refine J_icmp_lt (tgt := 30) (n := 24) dX4_takesLine_21 (by decide) rfl (fun c_21 => ?_) (fun c_21 => ?_)
      · refine J_iload_n (i := 1) (n := 31) dX4_takesLine_30 rfl rfl rfl ?_
        refine J_iconst (n := 32) dX4_takesLine_31 kI_4 rfl ?_
        refine J_icmp_ge (tgt := 41) (n := 35) dX4_takesLine_32 (by decide) rfl (fun c_32 => ?_) (fun c_32 => ?_)
        · exfalso
          rw [nI_leI (by omega) (by omega)] at c_32
          omega
        · refine J_aload_n (i := 0) (n := 36) dX4_takesLine_35 rfl rfl rfl ?_
          refine J_iload_n (i := 1) (n := 37) dX4_takesLine_36 rfl rfl rfl ?_
          refine J_callVr (n := 40) wS_X4_takesGlove (c_T_takesGlove5 d (w := w) hw (by omega) hg4 ⟨rfl, rfl⟩) dX4_takesLine_37 wm_X4_59 ⟨wM_X4_takesGlove, wV_X4_takesGlove⟩ rfl (T_recv (by decide) (by decide)) rfl rfl (Nat.le_of_ble_eq_true rfl) rfl ?_
          refine J_iret dX4_takesLine_40 rfl (by first | exact kN_0 | exact kN_1) ?_
          exact hqF (5, tb t L i) hT _ t0 ((mA.rf _ _).f _ (by decide)) ⟨gsf_s _ _ _, by rw [gsf_n _ _ (by decide)]; exact h7⟩
      · exfalso
        rw [nI_ltI (by omega) (by omega)] at c_21
        omega
    · have hL0 : tLine t L D td w (tb t L i) (tk t L i).2.1 = bm t L (tGlv t L D w (tk t L i).2.1) := by
        unfold tLine tHead
        rw [if_neg (by omega), if_pos c4, if_neg (by omega)]
        show bm t L (tOf t L D w (tk t L i).2.1) = _
        unfold tOf
        rw [if_neg (by omega), if_neg (by omega), if_neg (by omega)]
      cases hT : bm t L (tGlv t L D w (tk t L i).2.1) with
      | inl e =>
        refine J_istore_n (i := 1) (n := 18) (lv' := [(0, _), (1, _)]) dX4_takesLine_17 rfl (by decide) rfl rfl ?_
        refine J_iload_n (i := 1) (n := 19) dX4_takesLine_18 rfl rfl rfl ?_
        refine J_bipush (n := 21) dX4_takesLine_19 kB_7 rfl ?_
        refine J_icmp_lt (tgt := 30) (n := 24) dX4_takesLine_21 (by decide) rfl (fun c_21 => ?_) (fun c_21 => ?_)
        · refine J_iload_n (i := 1) (n := 31) dX4_takesLine_30 rfl rfl rfl ?_
          refine J_iconst (n := 32) dX4_takesLine_31 kI_4 rfl ?_
          refine J_icmp_ge (tgt := 41) (n := 35) dX4_takesLine_32 (by decide) rfl (fun c_32 => ?_) (fun c_32 => ?_)
          · exfalso
            rw [nI_leI (by omega) (by omega)] at c_32
            omega
          · refine J_aload_n (i := 0) (n := 36) dX4_takesLine_35 rfl rfl rfl ?_
            refine J_iload_n (i := 1) (n := 37) dX4_takesLine_36 rfl rfl rfl ?_
            refine J_callVx (n := 40) wS_X4_takesGlove (c_T_takesGlove (Q := fun r h => r = some (.int (nI 0)) ∧ ∃ v1 t1, mA v v1 [2, 3, 4, 6, 7, 8] ∧ cflt v1 e ∧ h = hp G (gs_set (gs_set σ 5 13 t1) 4 0 v1)) d ht htp (i := (tk t L i).2.1) (w := w) hnL h2 hw cg (fun z hz => (inl_ne hT hz).elim) (fun z hz => by rw [hT] at hz; cases hz; exact fun v1 t1 a1 a2 => ⟨rfl, v1, t1, a1, a2, rfl⟩)) dX4_takesLine_37 wm_X4_59 ⟨wM_X4_takesGlove, wV_X4_takesGlove⟩ rfl (T_recv (by decide) (by decide)) rfl rfl (Nat.le_of_ble_eq_true rfl) rfl (fun r h1 hq1 => ?_)
            obtain ⟨rfl, v1, t1, hA1, hf1, rfl⟩ := hq1
            refine J_iret dX4_takesLine_40 rfl (by first | exact kN_0 | exact kN_1) ?_
            exact hqF e (by rw [hL0, hT]) v1 t1 (hA1.sub (by decide)) hf1
        · exfalso
          rw [nI_ltI (by omega) (by omega)] at c_21
          omega
      | inr x =>
        refine J_istore_n (i := 1) (n := 18) (lv' := [(0, _), (1, _)]) dX4_takesLine_17 rfl (by decide) rfl rfl ?_
        refine J_iload_n (i := 1) (n := 19) dX4_takesLine_18 rfl rfl rfl ?_
        refine J_bipush (n := 21) dX4_takesLine_19 kB_7 rfl ?_
        refine J_icmp_lt (tgt := 30) (n := 24) dX4_takesLine_21 (by decide) rfl (fun c_21 => ?_) (fun c_21 => ?_)
        · refine J_iload_n (i := 1) (n := 31) dX4_takesLine_30 rfl rfl rfl ?_
          refine J_iconst (n := 32) dX4_takesLine_31 kI_4 rfl ?_
          refine J_icmp_ge (tgt := 41) (n := 35) dX4_takesLine_32 (by decide) rfl (fun c_32 => ?_) (fun c_32 => ?_)
          · exfalso
            rw [nI_leI (by omega) (by omega)] at c_32
            omega
          · refine J_aload_n (i := 0) (n := 36) dX4_takesLine_35 rfl rfl rfl ?_
            refine J_iload_n (i := 1) (n := 37) dX4_takesLine_36 rfl rfl rfl ?_
            refine J_callVx (n := 40) wS_X4_takesGlove (c_T_takesGlove (Q := fun r h => r = some (.int (nI 1)) ∧ ∃ v1 t1, mA v v1 [2, 3, 4, 6, 7, 8] ∧ v1.2.1 8 = v.2.1 8 ∧ v1.2.1 2 = nI x.1 ∧ wR t1 x.2 ∧ h = hp G (gs_set (gs_set σ 5 13 t1) 4 0 v1)) d ht htp (i := (tk t L i).2.1) (w := w) hnL h2 hw cg (fun z hz => by rw [hT] at hz; cases hz; exact fun v1 t1 a1 a2 a3 a4 => ⟨rfl, v1, t1, a1, a2, a3, a4, rfl⟩) (fun z hz => (inl_ne hz hT).elim)) dX4_takesLine_37 wm_X4_59 ⟨wM_X4_takesGlove, wV_X4_takesGlove⟩ rfl (T_recv (by decide) (by decide)) rfl rfl (Nat.le_of_ble_eq_true rfl) rfl (fun r h1 hq1 => ?_)
            obtain ⟨rfl, v1, t1, hA1, h81, h21, hw1, rfl⟩ := hq1
            refine J_iret dX4_takesLine_40 rfl (by first | exact kN_0 | exact kN_1) ?_
            exact hqS x (by rw [hL0, hT]) v1 t1 (hA1.sub (by decide)) h81 h21 (by rw [hA1.2 5 (by decide), h5, tdb_lo c4]) hw1
        · exfalso
          rw [nI_ltI (by omega) (by omega)] at c_21
          omega
    · have hT : tLine t L D td w (tb t L i) (tk t L i).2.1 = .inl (4, tb t L i) := by
        unfold tLine tHead
        rw [if_neg (by omega), if_neg (by omega), if_pos ct]
      refine J_istore_n (i := 1) (n := 18) (lv' := [(0, _), (1, _)]) dX4_takesLine_17 rfl (by decide) rfl rfl ?_
      refine J_iload_n (i := 1) (n := 19) dX4_takesLine_18 rfl rfl rfl ?_
      refine J_bipush (n := 21) dX4_takesLine_19 kB_7 rfl ?_
      refine J_icmp_lt (tgt := 30) (n := 24) dX4_takesLine_21 (by decide) rfl (fun c_21 => ?_) (fun c_21 => ?_)
      · refine J_iload_n (i := 1) (n := 31) dX4_takesLine_30 rfl rfl rfl ?_
        refine J_iconst (n := 32) dX4_takesLine_31 kI_4 rfl ?_
        refine J_icmp_ge (tgt := 41) (n := 35) dX4_takesLine_32 (by decide) rfl (fun c_32 => ?_) (fun c_32 => ?_)
        · refine J_aload_n (i := 0) (n := 42) dX4_takesLine_41 rfl rfl rfl ?_
          refine T_get (k := 5) (n := 45) wk_X4 dX4_takesLine_42 wf_X4_32 (by decide) (by decide) rfl rfl ?_
          rw [h5]
          refine J_iload_n (i := 1) (n := 46) dX4_takesLine_45 rfl rfl rfl ?_
          refine J_ishr (n := 47) dX4_takesLine_46 rfl ?_
          refine J_iconst (n := 48) dX4_takesLine_47 kI_1 rfl ?_
          refine J_iand (n := 49) dX4_takesLine_48 rfl ?_
          refine J_iconst (n := 50) dX4_takesLine_49 kI_1 rfl ?_
          refine J_icmp_ne (tgt := 59) (n := 53) dX4_takesLine_50 (by decide) rfl (fun c_50 => ?_) (fun c_50 => ?_)
          · exact absurd ((tt_bit td c7 c4).mpr ct) c_50
          · refine J_aload_n (i := 0) (n := 54) dX4_takesLine_53 rfl rfl rfl ?_
            refine J_iconst (n := 55) dX4_takesLine_54 kI_4 rfl ?_
            refine J_callVr (n := 58) wS_X4_refuses (c_T_refuses (d + 5) (nI 4) ⟨rfl, rfl⟩) dX4_takesLine_55 wm_X4_55 ⟨wM_X4_refuses, wV_X4_refuses⟩ rfl (T_recv (by decide) (by decide)) rfl rfl (Nat.le_of_ble_eq_true rfl) rfl ?_
            refine J_iret dX4_takesLine_58 rfl (by first | exact kN_0 | exact kN_1) ?_
            exact hqF (4, tb t L i) hT _ t0 ((mA.rf _ _).f _ (by decide)) ⟨gsf_s _ _ _, by rw [gsf_n _ _ (by decide)]; exact h7⟩
        · exfalso
          rw [nI_leI (by omega) (by omega)] at c_32
          omega
      · exfalso
        rw [nI_ltI (by omega) (by omega)] at c_21
        omega
    · have hL0 : tLine t L D td w (tb t L i) (tk t L i).2.1 = bm t L (tOf t L D w (tk t L i).2.1) := by
        unfold tLine tHead
        rw [if_neg (by omega), if_neg (by omega), if_neg (by rw [ct]; decide)]
        rfl
      rcases (show w = 4 ∨ w = 5 ∨ w = 6 by omega) with rfl | rfl | rfl
      · have hL0 : tLine t L D td 4 (tb t L i) (tk t L i).2.1 = bm t L (tFam t L D (tk t L i).2.1) := hL0
        cases hT : tRow t L 9 12 (tk t L i).2.1 (D.1 0) with
        | inl e =>
          refine J_istore_n (i := 1) (n := 18) (lv' := [(0, _), (1, _)]) dX4_takesLine_17 rfl (by decide) rfl rfl ?_
          refine J_iload_n (i := 1) (n := 19) dX4_takesLine_18 rfl rfl rfl ?_
          refine J_bipush (n := 21) dX4_takesLine_19 kB_7 rfl ?_
          refine J_icmp_lt (tgt := 30) (n := 24) dX4_takesLine_21 (by decide) rfl (fun c_21 => ?_) (fun c_21 => ?_)
          · refine J_iload_n (i := 1) (n := 31) dX4_takesLine_30 rfl rfl rfl ?_
            refine J_iconst (n := 32) dX4_takesLine_31 kI_4 rfl ?_
            refine J_icmp_ge (tgt := 41) (n := 35) dX4_takesLine_32 (by decide) rfl (fun c_32 => ?_) (fun c_32 => ?_)
            · refine J_aload_n (i := 0) (n := 42) dX4_takesLine_41 rfl rfl rfl ?_
              refine T_get (k := 5) (n := 45) wk_X4 dX4_takesLine_42 wf_X4_32 (by decide) (by decide) rfl rfl ?_
              rw [h5]
              refine J_iload_n (i := 1) (n := 46) dX4_takesLine_45 rfl rfl rfl ?_
              refine J_ishr (n := 47) dX4_takesLine_46 rfl ?_
              refine J_iconst (n := 48) dX4_takesLine_47 kI_1 rfl ?_
              refine J_iand (n := 49) dX4_takesLine_48 rfl ?_
              refine J_iconst (n := 50) dX4_takesLine_49 kI_1 rfl ?_
              refine J_icmp_ne (tgt := 59) (n := 53) dX4_takesLine_50 (by decide) rfl (fun c_50 => ?_) (fun c_50 => ?_)
              · refine J_aload_n (i := 0) (n := 60) dX4_takesLine_59 rfl rfl rfl ?_
                refine J_dup (n := 61) dX4_takesLine_60 rfl rfl ?_
                refine T_get (k := 5) (n := 64) wk_X4 dX4_takesLine_61 wf_X4_32 (by decide) (by decide) rfl rfl ?_
                rw [h5]
                refine J_iconst (n := 65) dX4_takesLine_64 kI_1 rfl ?_
                refine J_iload_n (i := 1) (n := 66) dX4_takesLine_65 rfl rfl rfl ?_
                refine J_ishl (n := 67) dX4_takesLine_66 rfl ?_
                refine J_ior (n := 68) dX4_takesLine_67 rfl ?_
                rw [ts_bit td (by decide) (by decide)]
                refine T_putI (k := 5) (n := 71) wk_X4 dX4_takesLine_68 wf_X4_32 (by decide) (by decide) (kN_i _) rfl (Nat.le_of_ble_eq_true rfl) rfl rfl ?_
                refine J_iload_n (i := 1) (n := 72) dX4_takesLine_71 rfl rfl rfl ?_
                refine J_lookup (off := 28) (tgt := 100) dX4_takesLine_72 (by decide) (by decide +kernel) (by decide) ?_
                refine J_aload_n (i := 0) (n := 101) dX4_takesLine_100 rfl rfl rfl ?_
                refine J_aload_n (i := 0) (n := 102) dX4_takesLine_101 rfl rfl rfl ?_
                refine T_get (k := 1) (n := 105) wk_X4 dX4_takesLine_102 wf_X4_21 (by decide) (by decide) rfl rfl ?_
                refine T_getO (k := 0) (n := 108) wk_X5 dX4_takesLine_105 wf_X4_62 (by decide) (by decide) rfl rfl ?_
                refine J_bipush (n := 110) dX4_takesLine_108 kB_9 rfl ?_
                refine J_callVx (n := 113) wS_X4_takesRow (c_T_takesRowFame (t0 := t0) (Q := fun r h => r = some (.int (nI 0)) ∧ ∃ v1 t1, mA (gs_f v 5 (nI (tdb (tdn td 4)))) v1 [2, 3, 4, 6, 7, 8] ∧ cflt v1 e ∧ h = hp G (gs_set (gs_set σ 5 13 t1) 4 0 v1)) (d + 1) ht htp (i := (tk t L i).2.1) (r0 := D.1 0) hnL (by rw [gsf_n _ _ (by decide)]; exact h2) hw.1 (fun z hz => (inl_ne hT hz).elim) (fun z hz => by rw [hT] at hz; cases hz; exact fun v1 t1 a1 a2 => ⟨rfl, v1, t1, a1, a2, rfl⟩)) dX4_takesLine_110 wm_X4_66 ⟨wM_X4_takesRow, wV_X4_takesRow⟩ rfl (T_recv (by decide) (by decide)) rfl rfl (Nat.le_of_ble_eq_true rfl) rfl (fun r h1 hq1 => ?_)
                obtain ⟨rfl, v1, t1, hA1, hf1, rfl⟩ := hq1
                refine J_iret dX4_takesLine_113 rfl (by first | exact kN_0 | exact kN_1) ?_
                exact hqF e (by rw [hL0, bm_fam, hT]; rfl) v1 t1 ((((mA.rf v [2, 3, 4, 5, 6, 7, 8]).f _ (by decide))).tr (hA1.sub (by decide))) hf1
              · exact absurd ((tt_bit td (by decide) (by decide)).mp c_50) (by rw [ct]; decide)
            · exfalso
              rw [nI_leI (by omega) (by omega)] at c_32
              omega
          · exfalso
            rw [nI_ltI (by omega) (by omega)] at c_21
            omega
        | inr x =>
          refine J_istore_n (i := 1) (n := 18) (lv' := [(0, _), (1, _)]) dX4_takesLine_17 rfl (by decide) rfl rfl ?_
          refine J_iload_n (i := 1) (n := 19) dX4_takesLine_18 rfl rfl rfl ?_
          refine J_bipush (n := 21) dX4_takesLine_19 kB_7 rfl ?_
          refine J_icmp_lt (tgt := 30) (n := 24) dX4_takesLine_21 (by decide) rfl (fun c_21 => ?_) (fun c_21 => ?_)
          · refine J_iload_n (i := 1) (n := 31) dX4_takesLine_30 rfl rfl rfl ?_
            refine J_iconst (n := 32) dX4_takesLine_31 kI_4 rfl ?_
            refine J_icmp_ge (tgt := 41) (n := 35) dX4_takesLine_32 (by decide) rfl (fun c_32 => ?_) (fun c_32 => ?_)
            · refine J_aload_n (i := 0) (n := 42) dX4_takesLine_41 rfl rfl rfl ?_
              refine T_get (k := 5) (n := 45) wk_X4 dX4_takesLine_42 wf_X4_32 (by decide) (by decide) rfl rfl ?_
              rw [h5]
              refine J_iload_n (i := 1) (n := 46) dX4_takesLine_45 rfl rfl rfl ?_
              refine J_ishr (n := 47) dX4_takesLine_46 rfl ?_
              refine J_iconst (n := 48) dX4_takesLine_47 kI_1 rfl ?_
              refine J_iand (n := 49) dX4_takesLine_48 rfl ?_
              refine J_iconst (n := 50) dX4_takesLine_49 kI_1 rfl ?_
              refine J_icmp_ne (tgt := 59) (n := 53) dX4_takesLine_50 (by decide) rfl (fun c_50 => ?_) (fun c_50 => ?_)
              · refine J_aload_n (i := 0) (n := 60) dX4_takesLine_59 rfl rfl rfl ?_
                refine J_dup (n := 61) dX4_takesLine_60 rfl rfl ?_
                refine T_get (k := 5) (n := 64) wk_X4 dX4_takesLine_61 wf_X4_32 (by decide) (by decide) rfl rfl ?_
                rw [h5]
                refine J_iconst (n := 65) dX4_takesLine_64 kI_1 rfl ?_
                refine J_iload_n (i := 1) (n := 66) dX4_takesLine_65 rfl rfl rfl ?_
                refine J_ishl (n := 67) dX4_takesLine_66 rfl ?_
                refine J_ior (n := 68) dX4_takesLine_67 rfl ?_
                rw [ts_bit td (by decide) (by decide)]
                refine T_putI (k := 5) (n := 71) wk_X4 dX4_takesLine_68 wf_X4_32 (by decide) (by decide) (kN_i _) rfl (Nat.le_of_ble_eq_true rfl) rfl rfl ?_
                refine J_iload_n (i := 1) (n := 72) dX4_takesLine_71 rfl rfl rfl ?_
                refine J_lookup (off := 28) (tgt := 100) dX4_takesLine_72 (by decide) (by decide +kernel) (by decide) ?_
                refine J_aload_n (i := 0) (n := 101) dX4_takesLine_100 rfl rfl rfl ?_
                refine J_aload_n (i := 0) (n := 102) dX4_takesLine_101 rfl rfl rfl ?_
                refine T_get (k := 1) (n := 105) wk_X4 dX4_takesLine_102 wf_X4_21 (by decide) (by decide) rfl rfl ?_
                refine T_getO (k := 0) (n := 108) wk_X5 dX4_takesLine_105 wf_X4_62 (by decide) (by decide) rfl rfl ?_
                refine J_bipush (n := 110) dX4_takesLine_108 kB_9 rfl ?_
                refine J_callVx (n := 113) wS_X4_takesRow (c_T_takesRowFame (t0 := t0) (Q := fun r h => r = some (.int (nI 1)) ∧ ∃ v1 t1, mA (gs_f v 5 (nI (tdb (tdn td 4)))) v1 [2, 3, 4, 6, 7, 8] ∧ v1.2.1 8 = (gs_f v 5 (nI (tdb (tdn td 4)))).2.1 8 ∧ v1.2.1 2 = nI x.1 ∧ v1.2.1 6 = nI x.2.1 ∧ (∀ q, q < 12 → t1.1 0 q = nI (x.2.2 q)) ∧ ((∀ q, q ≠ 0 → t1.1 q = t0.1 q) ∧ t1.2 = t0.2) ∧ h = hp G (gs_set (gs_set σ 5 13 t1) 4 0 v1)) (d + 1) ht htp (i := (tk t L i).2.1) (r0 := D.1 0) hnL (by rw [gsf_n _ _ (by decide)]; exact h2) hw.1 (fun z hz => by rw [hT] at hz; cases hz; exact fun v1 t1 a1 a2 a3 a4 a5 a6 => ⟨rfl, v1, t1, a1, a2, a3, a4, a5, a6, rfl⟩) (fun z hz => (inl_ne hz hT).elim)) dX4_takesLine_110 wm_X4_66 ⟨wM_X4_takesRow, wV_X4_takesRow⟩ rfl (T_recv (by decide) (by decide)) rfl rfl (Nat.le_of_ble_eq_true rfl) rfl (fun r h1 hq1 => ?_)
                obtain ⟨rfl, v1, t1, hA1, h81, h21, h61, hc1, hfr, rfl⟩ := hq1
                have hw1 := hw.fam hc1 hfr.1 hfr.2
                refine J_iret dX4_takesLine_113 rfl (by first | exact kN_0 | exact kN_1) ?_
                exact hqS (x.1, pw_r D 0 x.2.2) (by rw [hL0, bm_fam, hT]; rfl) v1 t1 ((((mA.rf v [2, 3, 4, 5, 6, 7, 8]).f _ (by decide))).tr (hA1.sub (by decide))) (by rw [h81, gsf_n _ _ (by decide)]) h21 (by rw [hA1.2 5 (by decide)]; exact gsf_s _ _ _) hw1
              · exact absurd ((tt_bit td (by decide) (by decide)).mp c_50) (by rw [ct]; decide)
            · exfalso
              rw [nI_leI (by omega) (by omega)] at c_32
              omega
          · exfalso
            rw [nI_ltI (by omega) (by omega)] at c_21
            omega
      · have hL0 : tLine t L D td 5 (tb t L i) (tk t L i).2.1 = bm t L (tRou t L D (tk t L i).2.1) := hL0
        cases hT : bm t L (tRou t L D (tk t L i).2.1) with
        | inl e =>
          refine J_istore_n (i := 1) (n := 18) (lv' := [(0, _), (1, _)]) dX4_takesLine_17 rfl (by decide) rfl rfl ?_
          refine J_iload_n (i := 1) (n := 19) dX4_takesLine_18 rfl rfl rfl ?_
          refine J_bipush (n := 21) dX4_takesLine_19 kB_7 rfl ?_
          refine J_icmp_lt (tgt := 30) (n := 24) dX4_takesLine_21 (by decide) rfl (fun c_21 => ?_) (fun c_21 => ?_)
          · refine J_iload_n (i := 1) (n := 31) dX4_takesLine_30 rfl rfl rfl ?_
            refine J_iconst (n := 32) dX4_takesLine_31 kI_4 rfl ?_
            refine J_icmp_ge (tgt := 41) (n := 35) dX4_takesLine_32 (by decide) rfl (fun c_32 => ?_) (fun c_32 => ?_)
            · refine J_aload_n (i := 0) (n := 42) dX4_takesLine_41 rfl rfl rfl ?_
              refine T_get (k := 5) (n := 45) wk_X4 dX4_takesLine_42 wf_X4_32 (by decide) (by decide) rfl rfl ?_
              rw [h5]
              refine J_iload_n (i := 1) (n := 46) dX4_takesLine_45 rfl rfl rfl ?_
              refine J_ishr (n := 47) dX4_takesLine_46 rfl ?_
              refine J_iconst (n := 48) dX4_takesLine_47 kI_1 rfl ?_
              refine J_iand (n := 49) dX4_takesLine_48 rfl ?_
              refine J_iconst (n := 50) dX4_takesLine_49 kI_1 rfl ?_
              refine J_icmp_ne (tgt := 59) (n := 53) dX4_takesLine_50 (by decide) rfl (fun c_50 => ?_) (fun c_50 => ?_)
              · refine J_aload_n (i := 0) (n := 60) dX4_takesLine_59 rfl rfl rfl ?_
                refine J_dup (n := 61) dX4_takesLine_60 rfl rfl ?_
                refine T_get (k := 5) (n := 64) wk_X4 dX4_takesLine_61 wf_X4_32 (by decide) (by decide) rfl rfl ?_
                rw [h5]
                refine J_iconst (n := 65) dX4_takesLine_64 kI_1 rfl ?_
                refine J_iload_n (i := 1) (n := 66) dX4_takesLine_65 rfl rfl rfl ?_
                refine J_ishl (n := 67) dX4_takesLine_66 rfl ?_
                refine J_ior (n := 68) dX4_takesLine_67 rfl ?_
                rw [ts_bit td (by decide) (by decide)]
                refine T_putI (k := 5) (n := 71) wk_X4 dX4_takesLine_68 wf_X4_32 (by decide) (by decide) (kN_i _) rfl (Nat.le_of_ble_eq_true rfl) rfl rfl ?_
                refine J_iload_n (i := 1) (n := 72) dX4_takesLine_71 rfl rfl rfl ?_
                refine J_lookup (off := 42) (tgt := 114) dX4_takesLine_72 (by decide) (by decide +kernel) (by decide) ?_
                refine J_aload_n (i := 0) (n := 115) dX4_takesLine_114 rfl rfl rfl ?_
                refine J_callVx (n := 118) wS_X4_takesRoute (c_T_takesRoute (Q := fun r h => r = some (.int (nI 0)) ∧ ∃ v1 t1, mA (gs_f v 5 (nI (tdb (tdn td 5)))) v1 [2, 3, 4, 6, 7, 8] ∧ cflt v1 e ∧ h = hp G (gs_set (gs_set σ 5 13 t1) 4 0 v1)) d ht htp (i := (tk t L i).2.1) hnL (by rw [gsf_n _ _ (by decide)]; exact h2) hw (fun z hz => (inl_ne hT hz).elim) (fun z hz => by rw [hT] at hz; cases hz; exact fun v1 t1 a1 a2 => ⟨rfl, v1, t1, a1, a2, rfl⟩)) dX4_takesLine_115 wm_X4_70 ⟨wM_X4_takesRoute, wV_X4_takesRoute⟩ rfl (T_recv (by decide) (by decide)) rfl rfl (Nat.le_of_ble_eq_true rfl) rfl (fun r h1 hq1 => ?_)
                obtain ⟨rfl, v1, t1, hA1, hf1, rfl⟩ := hq1
                refine J_iret dX4_takesLine_118 rfl (by first | exact kN_0 | exact kN_1) ?_
                exact hqF e (by rw [hL0, hT]) v1 t1 ((((mA.rf v [2, 3, 4, 5, 6, 7, 8]).f _ (by decide))).tr (hA1.sub (by decide))) hf1
              · exact absurd ((tt_bit td (by decide) (by decide)).mp c_50) (by rw [ct]; decide)
            · exfalso
              rw [nI_leI (by omega) (by omega)] at c_32
              omega
          · exfalso
            rw [nI_ltI (by omega) (by omega)] at c_21
            omega
        | inr x =>
          refine J_istore_n (i := 1) (n := 18) (lv' := [(0, _), (1, _)]) dX4_takesLine_17 rfl (by decide) rfl rfl ?_
          refine J_iload_n (i := 1) (n := 19) dX4_takesLine_18 rfl rfl rfl ?_
          refine J_bipush (n := 21) dX4_takesLine_19 kB_7 rfl ?_
          refine J_icmp_lt (tgt := 30) (n := 24) dX4_takesLine_21 (by decide) rfl (fun c_21 => ?_) (fun c_21 => ?_)
          · refine J_iload_n (i := 1) (n := 31) dX4_takesLine_30 rfl rfl rfl ?_
            refine J_iconst (n := 32) dX4_takesLine_31 kI_4 rfl ?_
            refine J_icmp_ge (tgt := 41) (n := 35) dX4_takesLine_32 (by decide) rfl (fun c_32 => ?_) (fun c_32 => ?_)
            · refine J_aload_n (i := 0) (n := 42) dX4_takesLine_41 rfl rfl rfl ?_
              refine T_get (k := 5) (n := 45) wk_X4 dX4_takesLine_42 wf_X4_32 (by decide) (by decide) rfl rfl ?_
              rw [h5]
              refine J_iload_n (i := 1) (n := 46) dX4_takesLine_45 rfl rfl rfl ?_
              refine J_ishr (n := 47) dX4_takesLine_46 rfl ?_
              refine J_iconst (n := 48) dX4_takesLine_47 kI_1 rfl ?_
              refine J_iand (n := 49) dX4_takesLine_48 rfl ?_
              refine J_iconst (n := 50) dX4_takesLine_49 kI_1 rfl ?_
              refine J_icmp_ne (tgt := 59) (n := 53) dX4_takesLine_50 (by decide) rfl (fun c_50 => ?_) (fun c_50 => ?_)
              · refine J_aload_n (i := 0) (n := 60) dX4_takesLine_59 rfl rfl rfl ?_
                refine J_dup (n := 61) dX4_takesLine_60 rfl rfl ?_
                refine T_get (k := 5) (n := 64) wk_X4 dX4_takesLine_61 wf_X4_32 (by decide) (by decide) rfl rfl ?_
                rw [h5]
                refine J_iconst (n := 65) dX4_takesLine_64 kI_1 rfl ?_
                refine J_iload_n (i := 1) (n := 66) dX4_takesLine_65 rfl rfl rfl ?_
                refine J_ishl (n := 67) dX4_takesLine_66 rfl ?_
                refine J_ior (n := 68) dX4_takesLine_67 rfl ?_
                rw [ts_bit td (by decide) (by decide)]
                refine T_putI (k := 5) (n := 71) wk_X4 dX4_takesLine_68 wf_X4_32 (by decide) (by decide) (kN_i _) rfl (Nat.le_of_ble_eq_true rfl) rfl rfl ?_
                refine J_iload_n (i := 1) (n := 72) dX4_takesLine_71 rfl rfl rfl ?_
                refine J_lookup (off := 42) (tgt := 114) dX4_takesLine_72 (by decide) (by decide +kernel) (by decide) ?_
                refine J_aload_n (i := 0) (n := 115) dX4_takesLine_114 rfl rfl rfl ?_
                refine J_callVx (n := 118) wS_X4_takesRoute (c_T_takesRoute (Q := fun r h => r = some (.int (nI 1)) ∧ ∃ v1 t1, mA (gs_f v 5 (nI (tdb (tdn td 5)))) v1 [2, 3, 4, 6, 7, 8] ∧ v1.2.1 8 = (gs_f v 5 (nI (tdb (tdn td 5)))).2.1 8 ∧ v1.2.1 2 = nI x.1 ∧ wR t1 x.2 ∧ h = hp G (gs_set (gs_set σ 5 13 t1) 4 0 v1)) d ht htp (i := (tk t L i).2.1) hnL (by rw [gsf_n _ _ (by decide)]; exact h2) hw (fun z hz => by rw [hT] at hz; cases hz; exact fun v1 t1 a1 a2 a3 a4 => ⟨rfl, v1, t1, a1, a2, a3, a4, rfl⟩) (fun z hz => (inl_ne hz hT).elim)) dX4_takesLine_115 wm_X4_70 ⟨wM_X4_takesRoute, wV_X4_takesRoute⟩ rfl (T_recv (by decide) (by decide)) rfl rfl (Nat.le_of_ble_eq_true rfl) rfl (fun r h1 hq1 => ?_)
                obtain ⟨rfl, v1, t1, hA1, h81, h21, hw1, rfl⟩ := hq1
                refine J_iret dX4_takesLine_118 rfl (by first | exact kN_0 | exact kN_1) ?_
                exact hqS x (by rw [hL0, hT]) v1 t1 ((((mA.rf v [2, 3, 4, 5, 6, 7, 8]).f _ (by decide))).tr (hA1.sub (by decide))) (by rw [h81, gsf_n _ _ (by decide)]) h21 (by rw [hA1.2 5 (by decide)]; exact gsf_s _ _ _) hw1
              · exact absurd ((tt_bit td (by decide) (by decide)).mp c_50) (by rw [ct]; decide)
            · exfalso
              rw [nI_leI (by omega) (by omega)] at c_32
              omega
          · exfalso
            rw [nI_ltI (by omega) (by omega)] at c_21
            omega
      · have hL0 : tLine t L D td 6 (tb t L i) (tk t L i).2.1 = bm t L (tMan t L D (tk t L i).2.1) := hL0
        cases hT : bm t L (tMan t L D (tk t L i).2.1) with
        | inl e =>
          refine J_istore_n (i := 1) (n := 18) (lv' := [(0, _), (1, _)]) dX4_takesLine_17 rfl (by decide) rfl rfl ?_
          refine J_iload_n (i := 1) (n := 19) dX4_takesLine_18 rfl rfl rfl ?_
          refine J_bipush (n := 21) dX4_takesLine_19 kB_7 rfl ?_
          refine J_icmp_lt (tgt := 30) (n := 24) dX4_takesLine_21 (by decide) rfl (fun c_21 => ?_) (fun c_21 => ?_)
          · refine J_iload_n (i := 1) (n := 31) dX4_takesLine_30 rfl rfl rfl ?_
            refine J_iconst (n := 32) dX4_takesLine_31 kI_4 rfl ?_
            refine J_icmp_ge (tgt := 41) (n := 35) dX4_takesLine_32 (by decide) rfl (fun c_32 => ?_) (fun c_32 => ?_)
            · refine J_aload_n (i := 0) (n := 42) dX4_takesLine_41 rfl rfl rfl ?_
              refine T_get (k := 5) (n := 45) wk_X4 dX4_takesLine_42 wf_X4_32 (by decide) (by decide) rfl rfl ?_
              rw [h5]
              refine J_iload_n (i := 1) (n := 46) dX4_takesLine_45 rfl rfl rfl ?_
              refine J_ishr (n := 47) dX4_takesLine_46 rfl ?_
              refine J_iconst (n := 48) dX4_takesLine_47 kI_1 rfl ?_
              refine J_iand (n := 49) dX4_takesLine_48 rfl ?_
              refine J_iconst (n := 50) dX4_takesLine_49 kI_1 rfl ?_
              refine J_icmp_ne (tgt := 59) (n := 53) dX4_takesLine_50 (by decide) rfl (fun c_50 => ?_) (fun c_50 => ?_)
              · refine J_aload_n (i := 0) (n := 60) dX4_takesLine_59 rfl rfl rfl ?_
                refine J_dup (n := 61) dX4_takesLine_60 rfl rfl ?_
                refine T_get (k := 5) (n := 64) wk_X4 dX4_takesLine_61 wf_X4_32 (by decide) (by decide) rfl rfl ?_
                rw [h5]
                refine J_iconst (n := 65) dX4_takesLine_64 kI_1 rfl ?_
                refine J_iload_n (i := 1) (n := 66) dX4_takesLine_65 rfl rfl rfl ?_
                refine J_ishl (n := 67) dX4_takesLine_66 rfl ?_
                refine J_ior (n := 68) dX4_takesLine_67 rfl ?_
                rw [ts_bit td (by decide) (by decide)]
                refine T_putI (k := 5) (n := 71) wk_X4 dX4_takesLine_68 wf_X4_32 (by decide) (by decide) (kN_i _) rfl (Nat.le_of_ble_eq_true rfl) rfl rfl ?_
                refine J_iload_n (i := 1) (n := 72) dX4_takesLine_71 rfl rfl rfl ?_
                refine J_lookup (off := 47) (tgt := 119) dX4_takesLine_72 (by decide) (by decide +kernel) (by decide) ?_
                refine J_aload_n (i := 0) (n := 120) dX4_takesLine_119 rfl rfl rfl ?_
                refine J_callVx (n := 123) wS_X4_takesMan (c_T_takesMan (Q := fun r h => r = some (.int (nI 0)) ∧ ∃ v1 t1, mA (gs_f v 5 (nI (tdb (tdn td 6)))) v1 [2, 3, 4, 6, 7, 8] ∧ cflt v1 e ∧ h = hp G (gs_set (gs_set σ 5 13 t1) 4 0 v1)) d ht htp (i := (tk t L i).2.1) hnL (by rw [gsf_n _ _ (by decide)]; exact h2) hw (fun z hz => (inl_ne hT hz).elim) (fun z hz => by rw [hT] at hz; cases hz; exact fun v1 t1 a1 a2 => ⟨rfl, v1, t1, a1, a2, rfl⟩)) dX4_takesLine_120 wm_X4_73 ⟨wM_X4_takesMan, wV_X4_takesMan⟩ rfl (T_recv (by decide) (by decide)) rfl rfl (Nat.le_of_ble_eq_true rfl) rfl (fun r h1 hq1 => ?_)
                obtain ⟨rfl, v1, t1, hA1, hf1, rfl⟩ := hq1
                refine J_iret dX4_takesLine_123 rfl (by first | exact kN_0 | exact kN_1) ?_
                exact hqF e (by rw [hL0, hT]) v1 t1 ((((mA.rf v [2, 3, 4, 5, 6, 7, 8]).f _ (by decide))).tr (hA1.sub (by decide))) hf1
              · exact absurd ((tt_bit td (by decide) (by decide)).mp c_50) (by rw [ct]; decide)
            · exfalso
              rw [nI_leI (by omega) (by omega)] at c_32
              omega
          · exfalso
            rw [nI_ltI (by omega) (by omega)] at c_21
            omega
        | inr x =>
          refine J_istore_n (i := 1) (n := 18) (lv' := [(0, _), (1, _)]) dX4_takesLine_17 rfl (by decide) rfl rfl ?_
          refine J_iload_n (i := 1) (n := 19) dX4_takesLine_18 rfl rfl rfl ?_
          refine J_bipush (n := 21) dX4_takesLine_19 kB_7 rfl ?_
          refine J_icmp_lt (tgt := 30) (n := 24) dX4_takesLine_21 (by decide) rfl (fun c_21 => ?_) (fun c_21 => ?_)
          · refine J_iload_n (i := 1) (n := 31) dX4_takesLine_30 rfl rfl rfl ?_
            refine J_iconst (n := 32) dX4_takesLine_31 kI_4 rfl ?_
            refine J_icmp_ge (tgt := 41) (n := 35) dX4_takesLine_32 (by decide) rfl (fun c_32 => ?_) (fun c_32 => ?_)
            · refine J_aload_n (i := 0) (n := 42) dX4_takesLine_41 rfl rfl rfl ?_
              refine T_get (k := 5) (n := 45) wk_X4 dX4_takesLine_42 wf_X4_32 (by decide) (by decide) rfl rfl ?_
              rw [h5]
              refine J_iload_n (i := 1) (n := 46) dX4_takesLine_45 rfl rfl rfl ?_
              refine J_ishr (n := 47) dX4_takesLine_46 rfl ?_
              refine J_iconst (n := 48) dX4_takesLine_47 kI_1 rfl ?_
              refine J_iand (n := 49) dX4_takesLine_48 rfl ?_
              refine J_iconst (n := 50) dX4_takesLine_49 kI_1 rfl ?_
              refine J_icmp_ne (tgt := 59) (n := 53) dX4_takesLine_50 (by decide) rfl (fun c_50 => ?_) (fun c_50 => ?_)
              · refine J_aload_n (i := 0) (n := 60) dX4_takesLine_59 rfl rfl rfl ?_
                refine J_dup (n := 61) dX4_takesLine_60 rfl rfl ?_
                refine T_get (k := 5) (n := 64) wk_X4 dX4_takesLine_61 wf_X4_32 (by decide) (by decide) rfl rfl ?_
                rw [h5]
                refine J_iconst (n := 65) dX4_takesLine_64 kI_1 rfl ?_
                refine J_iload_n (i := 1) (n := 66) dX4_takesLine_65 rfl rfl rfl ?_
                refine J_ishl (n := 67) dX4_takesLine_66 rfl ?_
                refine J_ior (n := 68) dX4_takesLine_67 rfl ?_
                rw [ts_bit td (by decide) (by decide)]
                refine T_putI (k := 5) (n := 71) wk_X4 dX4_takesLine_68 wf_X4_32 (by decide) (by decide) (kN_i _) rfl (Nat.le_of_ble_eq_true rfl) rfl rfl ?_
                refine J_iload_n (i := 1) (n := 72) dX4_takesLine_71 rfl rfl rfl ?_
                refine J_lookup (off := 47) (tgt := 119) dX4_takesLine_72 (by decide) (by decide +kernel) (by decide) ?_
                refine J_aload_n (i := 0) (n := 120) dX4_takesLine_119 rfl rfl rfl ?_
                refine J_callVx (n := 123) wS_X4_takesMan (c_T_takesMan (Q := fun r h => r = some (.int (nI 1)) ∧ ∃ v1 t1, mA (gs_f v 5 (nI (tdb (tdn td 6)))) v1 [2, 3, 4, 6, 7, 8] ∧ v1.2.1 8 = (gs_f v 5 (nI (tdb (tdn td 6)))).2.1 8 ∧ v1.2.1 2 = nI x.1 ∧ wR t1 x.2 ∧ h = hp G (gs_set (gs_set σ 5 13 t1) 4 0 v1)) d ht htp (i := (tk t L i).2.1) hnL (by rw [gsf_n _ _ (by decide)]; exact h2) hw (fun z hz => by rw [hT] at hz; cases hz; exact fun v1 t1 a1 a2 a3 a4 => ⟨rfl, v1, t1, a1, a2, a3, a4, rfl⟩) (fun z hz => (inl_ne hz hT).elim)) dX4_takesLine_120 wm_X4_73 ⟨wM_X4_takesMan, wV_X4_takesMan⟩ rfl (T_recv (by decide) (by decide)) rfl rfl (Nat.le_of_ble_eq_true rfl) rfl (fun r h1 hq1 => ?_)
                obtain ⟨rfl, v1, t1, hA1, h81, h21, hw1, rfl⟩ := hq1
                refine J_iret dX4_takesLine_123 rfl (by first | exact kN_0 | exact kN_1) ?_
                exact hqS x (by rw [hL0, hT]) v1 t1 ((((mA.rf v [2, 3, 4, 5, 6, 7, 8]).f _ (by decide))).tr (hA1.sub (by decide))) (by rw [h81, gsf_n _ _ (by decide)]) h21 (by rw [hA1.2 5 (by decide)]; exact gsf_s _ _ _) hw1
              · exact absurd ((tt_bit td (by decide) (by decide)).mp c_50) (by rw [ct]; decide)
            · exfalso
              rw [nI_leI (by omega) (by omega)] at c_32
              omega
          · exfalso
            rw [nI_ltI (by omega) (by omega)] at c_21
            omega
  refine gx_K.of' (lv := [(0, _)]) (by decide) rfl (by decide) (Nat.le_of_ble_eq_true rfl) rfl ?_
  refine J_aload_n (i := 0) (n := 1) dX4_takesLine_0 rfl rfl rfl ?_
  refine T_get (k := 3) (n := 4) wk_X4 dX4_takesLine_1 wf_X4_45 (by decide) (by decide) rfl rfl ?_
  rw [h3]
  refine J_iconst (n := 5) dX4_takesLine_4 kI_1 rfl ?_
  refine J_icmp_ne (tgt := 15) (n := 8) dX4_takesLine_5 (by decide) rfl (fun c_5 => ?_) (fun c_5 => ?_)
  · refine J_bipush (n := 17) dX4_takesLine_15 kB_7 rfl ?_
    first
    | (rw [nI_eq (by omega) (by decide)] at c_5
       rw [show tw t L i = wd t (tb t L i) (tk t L i).2.1 from if_pos c_5] at k17
       exact k17)
    | (rw [nI_eq (by omega) (by decide)] at c_5
       rw [show tw t L i = 7 from if_neg c_5] at k17
       exact k17)
  · refine J_aload_n (i := 0) (n := 9) dX4_takesLine_8 rfl rfl rfl ?_
    refine J_callVr (n := 12) wS_X4_wordRead (c_T_wordRead d ht (htp.w t0) (b := tb t L i) (e := (tk t L i).2.1) htl.1 htl.2 h2 h7 ⟨rfl, rfl⟩) dX4_takesLine_9 wm_X4_51 ⟨wM_X4_wordRead, wV_X4_wordRead⟩ rfl (T_recv (by decide) (by decide)) rfl rfl (Nat.le_of_ble_eq_true rfl) rfl ?_
    refine J_goto (tgt := 17) dX4_takesLine_12 (by decide) ?_
    first
    | (rw [nI_eq (by omega) (by decide)] at c_5
       rw [show tw t L i = wd t (tb t L i) (tk t L i).2.1 from if_pos c_5] at k17
       exact k17)
    | (rw [nI_eq (by omega) (by decide)] at c_5
       rw [show tw t L i = 7 from if_neg c_5] at k17
       exact k17)
