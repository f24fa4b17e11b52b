/-! ===== ask ===== -/
theorem bo_bits_all : ∀ b0 b1 b2 b3 : Bool, bo4 b0 b1 b2 b3 = nI (b0.toNat + 2 * b1.toNat + 4 * b2.toNat + 8 * b3.toNat) := by decide +kernel
theorem bo_bits (F : Nat → Bool) : bo F 4 = nI (pw_bits F) := bo_bits_all (F 0) (F 1) (F 2) (F 3)
theorem cu_cnt4 (F : Nat → Bool) : cu F 4 = pw_count F := by
  show 0 + (F 0).toNat + (F 1).toNat + (F 2).toNat + (F 3).toNat = _
  unfold pw_count
  omega
theorem mo_max {a b : Nat} (ha : a < 2 ^ 31) (hb : b < 2 ^ 31) : (if nI a < nI b then nI b else nI a) = nI (max a b) := by
  by_cases h : a < b
  · rw [if_pos (nI_lt h hb), Nat.max_eq_right (by omega)]
  · rw [if_neg (nI_nlt (by omega) ha), Nat.max_eq_left (by omega)]
theorem aa_end {r : Nat × Option Nat} {w : Int32} (hr : ∀ m, r.2 = some m → m < 2 ^ 31) : (cd r.2 = -4 → aa r w = cd r.2) ∧ (¬ cd r.2 = -4 → w = 0 → aa r w = cd r.2) ∧ (¬ cd r.2 = -4 → ¬ w = 0 → aa r w = nI r.1) := by
  obtain ⟨a, b⟩ := r
  cases b with
  | none => exact ⟨fun _ => rfl, fun h => absurd rfl h, fun h => absurd rfl h⟩
  | some m =>
    refine ⟨fun h => absurd h (cd_ne (hr m rfl)), fun _ h => ?_, fun _ h => ?_⟩
    · show (if w = 0 then nI m else nI a) = nI m
      rw [if_pos h]
    · show (if w = 0 then nI m else nI a) = nI a
      rw [if_neg h]
set_option maxHeartbeats 4000000 in
set_option maxRecDepth 100000 in
theorem c_G_most {G : gx_G} {σ : gs_S} {Q : Option Value → gx_Hp → Prop} {F : Nat → Bool} {D : Nat → Nat} (d : Nat) {j : Nat} (hj : j < 4) (hb : ∀ q, q < 4 → (σ 5 (2 + q)).1 2 j = nI (D q) ∧ D q ≤ 11) (hq : Q (some (.int (nI (mo F D 12)))) (hp G σ)) : gx_K G yX6_mostAtOneDoor mX6_mostAtOneDoor (d + 1) 0 0 [.ref (gs_a G 6 0 0), .int (nI j), .int (bo F 4)] (hp G σ) Q := by
  have loop : ∀ u e, 12 - e < u → e ≤ 12 → gx_J G mX6_mostAtOneDoor (d + 1) 0 0 Q 5 [(0, .ref (gs_a G 6 0 0)), (1, .int (nI j)), (2, .int (bo F 4)), (3, .int (nI (mo F D e))), (4, .int (nI e))] [] (hp G σ) := by
    intro u
    induction u with
    | zero => intros; exact absurd (by assumption) (Nat.not_lt_zero _)
    | succ u ihu =>
      intro e hu he
      have inn : ∀ u2 m, e < 12 → 4 - m < u2 → m ≤ 4 → gx_J G mX6_mostAtOneDoor (d + 1) 0 0 Q 18 [(0, .ref (gs_a G 6 0 0)), (1, .int (nI j)), (2, .int (bo F 4)), (3, .int (nI (mo F D e))), (4, .int (nI e)), (5, .int (nI (ct F D e m))), (6, .int (nI m))] [] (hp G σ) := by
        intro u2
        induction u2 with
        | zero => intros; exact absurd (by assumption) (Nat.not_lt_zero _)
        | succ u2 ihu2 =>
          intro m he12 hu2 hm
          have hcl := ct_le F D e m
          refine J_iload (i := 6) (n := 20) dX6_mostAtOneDoor_18 rfl rfl ?_
          refine J_iconst (n := 21) dX6_mostAtOneDoor_20 kI_4 rfl ?_
          refine J_icmp_ge (tgt := 60) (n := 24) dX6_mostAtOneDoor_21 (by decide) rfl (fun c_21 => ?_) (fun c_21 => ?_)
          · refine J_iload_n (i := 3) (n := 61) dX6_mostAtOneDoor_60 rfl rfl rfl ?_
            rw [nI_leI (by omega) (by omega)] at c_21
            have em : m = 4 := by omega
            subst em
            refine J_iload (i := 5) (n := 63) dX6_mostAtOneDoor_61 rfl rfl ?_
            refine J_mmax (n := 66) dX6_mostAtOneDoor_63 wm_X6_267 ⟨wT_J9_max_7cf53, wI_J9, wC_J9_max_7cf53⟩ (Nat.le_of_ble_eq_true rfl) rfl ?_
            rw [mo_max (by have := mo_le F D e; omega) (by omega)]
            refine J_istore_n (i := 3) (n := 67) (lv' := [(0, _), (1, _), (2, _), (3, _), (4, _), (5, _), (6, _)]) dX6_mostAtOneDoor_66 rfl (by decide) rfl rfl ?_
            refine J_inc (i := 4) (n := 70) (lv' := [(0, _), (1, _), (2, _), (3, _), (4, _), (5, _), (6, _)]) dX6_mostAtOneDoor_67 rfl (by decide) rfl rfl ?_
            refine J_goto (tgt := 5) dX6_mostAtOneDoor_70 (by decide) ?_
            refine J_sub (lv' := [(0, _), (1, _), (2, _), (3, _), (4, _)]) (fun q hq => List.mem_append_left [(5, _), (6, _)] hq) ?_
            exact ihu (e + 1) (by omega) (by omega)
          · rw [nI_leI (by omega) (by omega)] at c_21
            obtain ⟨hb1, hb2⟩ := hb m (by omega)
            have hk5 : 2 + m < gs_cnt 5 := by show 2 + m < 14; omega
            have hbb := bo_bit F (e := m) (by omega)
            refine J_iload_n (i := 2) (n := 25) dX6_mostAtOneDoor_24 rfl rfl rfl ?_
            refine J_iload (i := 6) (n := 27) dX6_mostAtOneDoor_25 rfl rfl ?_
            refine J_ishr (n := 28) dX6_mostAtOneDoor_27 rfl ?_
            refine J_iconst (n := 29) dX6_mostAtOneDoor_28 kI_1 rfl ?_
            refine J_iand (n := 30) dX6_mostAtOneDoor_29 rfl ?_
            refine J_iconst (n := 31) dX6_mostAtOneDoor_30 kI_1 rfl ?_
            refine J_icmp_ne (tgt := 54) (n := 34) dX6_mostAtOneDoor_31 (by decide) rfl (fun c_31 => ?_) (fun c_31 => ?_)
            · refine J_inc (i := 6) (n := 57) (lv' := [(0, _), (1, _), (2, _), (3, _), (4, _), (5, _), (6, _)]) dX6_mostAtOneDoor_54 rfl (by decide) rfl rfl ?_
              refine J_goto (tgt := 18) dX6_mostAtOneDoor_57 (by decide) ?_
              have h0 := ihu2 (m + 1) he12 (by omega) (by omega)
              first
              | (have hct : ct F D e (m + 1) = ct F D e m := by
                   show ct F D e m + (F m && decide (D m = e)).toNat = ct F D e m
                   have hz : (F m && decide (D m = e)) = false := by
                     first
                     | (have hf : F m = false := by
                          cases hfm : F m with
                          | false => rfl
                          | true => exact absurd (hbb.mpr hfm) c_31
                        rw [hf, Bool.false_and])
                     | (rw [nI_eq (by omega) (by omega)] at c_48
                        rw [decide_eq_false c_48, Bool.and_false])
                   rw [hz]
                   rfl
                 rw [hct] at h0
                 exact h0)
              | (have hct : ct F D e (m + 1) = ct F D e m + 1 := by
                   show ct F D e m + (F m && decide (D m = e)).toNat = ct F D e m + 1
                   rw [nI_eq (by omega) (by omega)] at c_48
                   rw [hbb.mp c_31, decide_eq_true c_48]
                   rfl
                 rw [hct] at h0
                 exact h0)
            · refine J_aload_n (i := 0) (n := 35) dX6_mostAtOneDoor_34 rfl rfl rfl ?_
              refine T_getO (k := 3) (n := 38) wk_X6 dX6_mostAtOneDoor_35 wf_X6_26 (by decide) (by first | assumption | decide) rfl rfl ?_
              refine J_iload (i := 6) (n := 40) dX6_mostAtOneDoor_38 rfl rfl ?_
              refine T_aald (k := 3) (t := 3) (N := 9) (n := 41) dX6_mostAtOneDoor_40 (by decide) rfl rfl (vp_in_nI (by omega) (by decide)) rfl rfl ?_
              rw [nI_clamp (by omega)]
              refine T_getO (k := 2) (n := 44) wk_X5 dX6_mostAtOneDoor_41 wf_X6_132 (by decide) (by first | assumption | decide) rfl rfl ?_
              refine J_iload_n (i := 1) (n := 45) dX6_mostAtOneDoor_44 rfl rfl rfl ?_
              refine T_ialdO (c := 5) (k := 2) (N := 4) (n := 46) dX6_mostAtOneDoor_45 (by decide) (by first | assumption | decide) rfl (vp_in_nI (by omega) (by decide)) rfl ?_
              rw [nI_clamp (by omega), hb1]
              refine J_iload (i := 4) (n := 48) dX6_mostAtOneDoor_46 rfl rfl ?_
              refine J_icmp_ne (tgt := 54) (n := 51) dX6_mostAtOneDoor_48 (by decide) rfl (fun c_48 => ?_) (fun c_48 => ?_)
              · refine J_inc (i := 6) (n := 57) (lv' := [(0, _), (1, _), (2, _), (3, _), (4, _), (5, _), (6, _)]) dX6_mostAtOneDoor_54 rfl (by decide) rfl rfl ?_
                refine J_goto (tgt := 18) dX6_mostAtOneDoor_57 (by decide) ?_
                have h0 := ihu2 (m + 1) he12 (by omega) (by omega)
                first
                | (have hct : ct F D e (m + 1) = ct F D e m := by
                     show ct F D e m + (F m && decide (D m = e)).toNat = ct F D e m
                     have hz : (F m && decide (D m = e)) = false := by
                       first
                       | (have hf : F m = false := by
                            cases hfm : F m with
                            | false => rfl
                            | true => exact absurd (hbb.mpr hfm) c_31
                          rw [hf, Bool.false_and])
                       | (rw [nI_eq (by omega) (by omega)] at c_48
                          rw [decide_eq_false c_48, Bool.and_false])
                     rw [hz]
                     rfl
                   rw [hct] at h0
                   exact h0)
                | (have hct : ct F D e (m + 1) = ct F D e m + 1 := by
                     show ct F D e m + (F m && decide (D m = e)).toNat = ct F D e m + 1
                     rw [nI_eq (by omega) (by omega)] at c_48
                     rw [hbb.mp c_31, decide_eq_true c_48]
                     rfl
                   rw [hct] at h0
                   exact h0)
              · refine J_inc (i := 5) (n := 54) (lv' := [(0, _), (1, _), (2, _), (3, _), (4, _), (5, _), (6, _)]) dX6_mostAtOneDoor_51 rfl (by decide) rfl rfl ?_
                refine J_inc (i := 6) (n := 57) (lv' := [(0, _), (1, _), (2, _), (3, _), (4, _), (5, _), (6, _)]) dX6_mostAtOneDoor_54 rfl (by decide) rfl rfl ?_
                refine J_goto (tgt := 18) dX6_mostAtOneDoor_57 (by decide) ?_
                have h0 := ihu2 (m + 1) he12 (by omega) (by omega)
                first
                | (have hct : ct F D e (m + 1) = ct F D e m := by
                     show ct F D e m + (F m && decide (D m = e)).toNat = ct F D e m
                     have hz : (F m && decide (D m = e)) = false := by
                       first
                       | (have hf : F m = false := by
                            cases hfm : F m with
                            | false => rfl
                            | true => exact absurd (hbb.mpr hfm) c_31
                          rw [hf, Bool.false_and])
                       | (rw [nI_eq (by omega) (by omega)] at c_48
                          rw [decide_eq_false c_48, Bool.and_false])
                     rw [hz]
                     rfl
                   rw [hct] at h0
                   exact h0)
                | (have hct : ct F D e (m + 1) = ct F D e m + 1 := by
                     show ct F D e m + (F m && decide (D m = e)).toNat = ct F D e m + 1
                     rw [nI_eq (by omega) (by omega)] at c_48
                     rw [hbb.mp c_31, decide_eq_true c_48]
                     rfl
                   rw [hct] at h0
                   exact h0)
      refine J_iload (i := 4) (n := 7) dX6_mostAtOneDoor_5 rfl rfl ?_
      refine J_bipush (n := 9) dX6_mostAtOneDoor_7 kB_12 rfl ?_
      refine J_icmp_ge (tgt := 73) (n := 12) dX6_mostAtOneDoor_9 (by decide) rfl (fun c_9 => ?_) (fun c_9 => ?_)
      · refine J_iload_n (i := 3) (n := 74) dX6_mostAtOneDoor_73 rfl rfl rfl ?_
        rw [nI_leI (by omega) (by omega)] at c_9
        have ee : e = 12 := by omega
        subst ee
        refine J_iret dX6_mostAtOneDoor_74 rfl (kN_i _) ?_
        exact hq
      · rw [nI_leI (by omega) (by omega)] at c_9
        refine J_iconst (n := 13) dX6_mostAtOneDoor_12 kI_0 rfl ?_
        refine J_istore (i := 5) (n := 15) (lv' := [(0, _), (1, _), (2, _), (3, _), (4, _), (5, _)]) dX6_mostAtOneDoor_13 (by decide) rfl rfl ?_
        refine J_iconst (n := 16) dX6_mostAtOneDoor_15 kI_0 rfl ?_
        refine J_istore (i := 6) (n := 18) (lv' := [(0, _), (1, _), (2, _), (3, _), (4, _), (5, _), (6, _)]) dX6_mostAtOneDoor_16 (by decide) rfl rfl ?_
        exact inn 5 0 (by omega) (by omega) (by omega)
  refine gx_K.of' (lv := [(0, _), (1, _), (2, _)]) (by decide) rfl (by decide) (Nat.le_of_ble_eq_true rfl) rfl ?_
  refine J_iconst (n := 1) dX6_mostAtOneDoor_0 kI_0 rfl ?_
  refine J_istore_n (i := 3) (n := 2) (lv' := [(0, _), (1, _), (2, _), (3, _)]) dX6_mostAtOneDoor_1 rfl (by decide) rfl rfl ?_
  refine J_iconst (n := 3) dX6_mostAtOneDoor_2 kI_0 rfl ?_
  refine J_istore (i := 4) (n := 5) (lv' := [(0, _), (1, _), (2, _), (3, _), (4, _)]) dX6_mostAtOneDoor_3 (by decide) rfl rfl ?_
  exact loop 13 0 (by omega) (by omega)

set_option maxHeartbeats 4000000 in
set_option maxRecDepth 100000 in
theorem j_ask_28 {G : gx_G} {σ : gs_S} {Q : Option Value → gx_Hp → Prop} {p : pw} (d : Nat) {j : Nat} {w x3 : Int32} (hO : pOk p) (hd9 : p.2.2 10 ≤ 999) (hj : j < 4) (hw : wR (σ 5 0) p) (k68 : ∀ τ, (∀ c i, ¬ isScr c i → τ c i = σ c i) → (∀ q, q < 4 → wR (τ 5 (2 + q)) (pw_a p 1 j q)) → gx_J G mX6_ask (d + 12) 0 0 Q 68 [(0, .ref (gs_a G 6 0 0)), (1, .int (nI j)), (2, .int w), (3, .int x3), (4, .int (nI 4))] [] (hp G τ)) : ∀ u e τ, 4 - e < u → e ≤ 4 → (∀ c i, ¬ isScr c i → τ c i = σ c i) → (∀ q, q < e → wR (τ 5 (2 + q)) (pw_a p 1 j q)) → gx_J G mX6_ask (d + 12) 0 0 Q 28 [(0, .ref (gs_a G 6 0 0)), (1, .int (nI j)), (2, .int w), (3, .int x3), (4, .int (nI e))] [] (hp G τ) := by
  intro u
  induction u with
  | zero => intros; exact absurd (by assumption) (Nat.not_lt_zero _)
  | succ u ihu =>
    intro e τ hu he hscr hbr
    refine J_iload (i := 4) (n := 30) dX6_ask_28 rfl rfl ?_
    refine J_iconst (n := 31) dX6_ask_30 kI_4 rfl ?_
    refine J_icmp_ge (tgt := 68) (n := 34) dX6_ask_31 (by decide) rfl (fun c_31 => ?_) (fun c_31 => ?_)
    · rw [nI_leI (by omega) (by omega)] at c_31
      have ee : e = 4 := by omega
      subst ee
      exact k68 τ hscr hbr
    · rw [nI_leI (by omega) (by omega)] at c_31
      have hk5 : 2 + e < gs_cnt 5 := by show 2 + e < 14; omega
      refine J_aload_n (i := 0) (n := 35) dX6_ask_34 rfl rfl rfl ?_
      refine T_getO (k := 3) (n := 38) wk_X6 dX6_ask_35 wf_X6_26 (by decide) (by decide) rfl rfl ?_
      refine J_iload (i := 4) (n := 40) dX6_ask_38 rfl rfl ?_
      refine T_aald (k := 3) (t := 3) (N := 9) (n := 41) dX6_ask_40 (by decide) rfl rfl (vp_in_nI (by omega) (by decide)) rfl rfl ?_
      rw [nI_clamp (by omega)]
      refine J_aload_n (i := 0) (n := 42) dX6_ask_41 rfl rfl rfl ?_
      refine T_getO (k := 0) (n := 45) wk_X6 dX6_ask_42 wf_X6_10 (by decide) (by decide) rfl rfl ?_
      refine J_callVx (n := 48) wS_X5_become (K_eta 5 (2 + e) (c_W_become (Q := fun r h => r = none ∧ ∃ t1, wR t1 p ∧ h = hp G (gs_set τ 5 (2 + e) t1)) (d + 10) (i := 2 + e) (j := 0) hk5 (by decide) (by omega) (show wR (τ 5 0) p by rw [hscr 5 0 (by unfold isScr; omega)]; exact hw) hO (fun t1 h1 => ⟨rfl, t1, h1, rfl⟩))) dX6_ask_45 wm_X6_85 ⟨wM_X5_become, wV_X5_become⟩ rfl (T_recv (by decide) hk5) rfl rfl (Nat.le_of_ble_eq_true rfl) rfl (fun r h1 hq1 => ?_)
      obtain ⟨rfl, t1, hw1, rfl⟩ := hq1
      refine J_aload_n (i := 0) (n := 49) dX6_ask_48 rfl rfl rfl ?_
      refine T_getO (k := 3) (n := 52) wk_X6 dX6_ask_49 wf_X6_26 (by decide) (by decide) rfl rfl ?_
      refine J_iload (i := 4) (n := 54) dX6_ask_52 rfl rfl ?_
      refine T_aald (k := 3) (t := 3) (N := 9) (n := 55) dX6_ask_54 (by decide) rfl rfl (vp_in_nI (by omega) (by decide)) rfl rfl ?_
      rw [nI_clamp (by omega)]
      refine J_iload_n (i := 1) (n := 56) dX6_ask_55 rfl rfl rfl ?_
      refine J_iconst (n := 57) dX6_ask_56 kI_0 rfl ?_
      refine J_iload (i := 4) (n := 59) dX6_ask_57 rfl rfl ?_
      refine J_callVx (n := 62) wS_X5_putPart (c_W_putPart (Q := fun r h => r = none ∧ ∃ t3, wR t3 (pw_a p (0 + 1) j e) ∧ h = hp G (gs_set τ 5 (2 + e) t3)) (d + 11) (i := 2 + e) (k := 0) (v := e) hk5 hw1 (by omega) (by omega) (fun t3 h3 => ⟨rfl, t3, h3, rfl⟩)) dX6_ask_59 wm_X6_162 ⟨wM_X5_putPart, wV_X5_putPart⟩ rfl (T_recv (by decide) hk5) rfl rfl (Nat.le_of_ble_eq_true rfl) rfl (fun r h1 hq1 => ?_)
      obtain ⟨rfl, t3, hw3, rfl⟩ := hq1
      refine J_inc (i := 4) (n := 65) (lv' := [(0, _), (1, _), (2, _), (3, _), (4, _)]) dX6_ask_62 rfl (by decide) rfl rfl ?_
      refine J_goto (tgt := 28) dX6_ask_65 (by decide) ?_
      refine ihu (e + 1) _ (by omega) (by omega) (fun c i hn => by rw [gs_ne (fun q => hn (Or.inl ⟨q.1, by omega, by omega⟩))]; exact hscr c i hn) (fun q hq0 => ?_)
      by_cases eq : q = e
      · subst eq
        rw [gs_same]; exact hw3
      · rw [gs_neI (by omega)]; exact hbr q (by omega)
set_option maxHeartbeats 4000000 in
set_option maxRecDepth 100000 in
theorem j_ask_114 {G : gx_G} {σ : gs_S} {Q : Option Value → gx_Hp → Prop} {p : pw} (d : Nat) {j : Nat} {w x3 : Int32} (hO : pOk p) (hd9 : p.2.2 10 ≤ 999) (hj : j < 4) {n : Nat} {x4 x5 x7 : Int32} (hn : n < 100) (k81 : ∀ τ, (∀ c i, ¬ isScr c i → τ c i = σ c i) → (∀ q, q < 4 → wR (τ 5 (2 + q)) (pw_days (pw_a p 1 j q) (n + 1))) → gx_J G mX6_ask (d + 12) 0 0 Q 81 [(0, .ref (gs_a G 6 0 0)), (1, .int (nI j)), (2, .int w), (3, .int x3), (4, .int x4), (5, .int x5), (6, .int (nI (n + 1)))] [] (hp G τ)) : ∀ u e τ, 4 - e < u → e ≤ 4 → (∀ c i, ¬ isScr c i → τ c i = σ c i) → (∀ q, q < 4 → wR (τ 5 (2 + q)) (pw_days (pw_a p 1 j q) (if q < e then n + 1 else n))) → gx_J G mX6_ask (d + 12) 0 0 Q 114 [(0, .ref (gs_a G 6 0 0)), (1, .int (nI j)), (2, .int w), (3, .int x3), (4, .int x4), (5, .int x5), (6, .int (nI n)), (7, .int x7), (8, .int (nI e))] [] (hp G τ) := by
  intro u
  induction u with
  | zero => intros; exact absurd (by assumption) (Nat.not_lt_zero _)
  | succ u ihu =>
    intro e τ hu he hscr hbr
    refine J_iload (i := 8) (n := 116) dX6_ask_114 rfl rfl ?_
    refine J_iconst (n := 117) dX6_ask_116 kI_4 rfl ?_
    refine J_icmp_ge (tgt := 137) (n := 120) dX6_ask_117 (by decide) rfl (fun c_117 => ?_) (fun c_117 => ?_)
    · refine J_inc (i := 6) (n := 140) (lv' := [(0, _), (1, _), (2, _), (3, _), (4, _), (5, _), (6, _), (7, _), (8, _)]) dX6_ask_137 rfl (by decide) rfl rfl ?_
      refine J_goto (tgt := 81) dX6_ask_140 (by decide) ?_
      rw [nI_leI (by omega) (by omega)] at c_117
      have ee : e = 4 := by omega
      subst ee
      refine J_sub (lv' := [(0, _), (1, _), (2, _), (3, _), (4, _), (5, _), (6, _)]) (fun q hq => List.mem_append_left [(7, _), (8, _)] hq) ?_
      exact k81 τ hscr (fun q hq0 => by have h0 := hbr q hq0; rw [if_pos hq0] at h0; exact h0)
    · rw [nI_leI (by omega) (by omega)] at c_117
      have hk5 : 2 + e < gs_cnt 5 := by show 2 + e < 14; omega
      have hbe := hbr e (by omega)
      rw [if_neg (by omega)] at hbe
      refine J_aload_n (i := 0) (n := 121) dX6_ask_120 rfl rfl rfl ?_
      refine T_getO (k := 3) (n := 124) wk_X6 dX6_ask_121 wf_X6_26 (by decide) (by decide) rfl rfl ?_
      refine J_iload (i := 8) (n := 126) dX6_ask_124 rfl rfl ?_
      refine T_aald (k := 3) (t := 3) (N := 9) (n := 127) dX6_ask_126 (by decide) rfl rfl (vp_in_nI (by omega) (by decide)) rfl rfl ?_
      rw [nI_clamp (by omega)]
      refine J_iconst (n := 128) dX6_ask_127 kI_1 rfl ?_
      refine J_callVx (n := 131) wS_X5_passDays (K_eta 5 (2 + e) (c_W_passDays (Q := fun r h => r = none ∧ ∃ t2, wR t2 (pw_days (pw_days (pw_a p 1 j e) n) 1) ∧ h = hp G (gs_set τ 5 (2 + e) t2)) (d + 6) (i := 2 + e) (n := 1) hk5 hbe (pw_days_ok (pw_a_ok hO (by omega)) n) (by rw [pw_days_day]; show p.2.2 10 + n + 1 < 2 ^ 30; omega) (fun t2 h2 => ⟨rfl, t2, h2, rfl⟩))) dX6_ask_128 wm_X6_170 ⟨wM_X5_passDays, wV_X5_passDays⟩ rfl (T_recv (by decide) hk5) rfl rfl (Nat.le_of_ble_eq_true rfl) rfl (fun r h1 hq1 => ?_)
      obtain ⟨rfl, t2, hw2, rfl⟩ := hq1
      refine J_inc (i := 8) (n := 134) (lv' := [(0, _), (1, _), (2, _), (3, _), (4, _), (5, _), (6, _), (7, _), (8, _)]) dX6_ask_131 rfl (by decide) rfl rfl ?_
      refine J_goto (tgt := 114) dX6_ask_134 (by decide) ?_
      refine ihu (e + 1) _ (by omega) (by omega) (fun c i hn => by rw [gs_ne (fun q => hn (Or.inl ⟨q.1, by omega, by omega⟩))]; exact hscr c i hn) (fun q hq0 => ?_)
      by_cases eq : q = e
      · subst eq
        rw [gs_same, if_pos (by omega), pw_days_add]; exact hw2
      · rw [gs_neI (by omega)]
        have h0 := hbr q hq0
        by_cases hl : q < e
        · rw [if_pos hl] at h0
          rw [if_pos (by omega)]; exact h0
        · rw [if_neg hl] at h0
          rw [if_neg (by omega)]; exact h0
set_option maxHeartbeats 4000000 in
set_option maxRecDepth 100000 in
theorem j_ask_81 {G : gx_G} {σ : gs_S} {Q : Option Value → gx_Hp → Prop} {p : pw} (d : Nat) {j : Nat} {w : Int32} (hO : pOk p) (hd9 : p.2.2 10 ≤ 999) (hj : j < 4) {F : Nat → Bool} {D : Nat → Nat → Nat} (hD : ∀ n q, D n q = (pw_days (pw_a p 1 j q) n).1 2 j) (hj6 : j < p.2.2 6) (hq : ∀ τ, (∀ c i, ¬ isScr c i → τ c i = σ c i) → Q (some (.int (aa (ak F D 21) w))) (hp G τ)) : ∀ u n τ, 21 - n < u → n ≤ 21 → (∀ c i, ¬ isScr c i → τ c i = σ c i) → (∀ q, q < 4 → wR (τ 5 (2 + q)) (pw_days (pw_a p 1 j q) n)) → gx_J G mX6_ask (d + 12) 0 0 Q 81 [(0, .ref (gs_a G 6 0 0)), (1, .int (nI j)), (2, .int w), (3, .int (bo F 4)), (4, .int (nI (ak F D n).1)), (5, .int (cd (ak F D n).2)), (6, .int (nI n))] [] (hp G τ) := by
  intro u
  induction u with
  | zero => intros; exact absurd (by assumption) (Nat.not_lt_zero _)
  | succ u ihu =>
    intro n τ hu hn hscr hbr
    have hak := ak_le F D n
    have hmo := mo_le F (D n) 12
    refine J_iload (i := 6) (n := 83) dX6_ask_81 rfl rfl ?_
    refine J_bipush (n := 85) dX6_ask_83 kB_20 rfl ?_
    refine J_icmp_gt (tgt := 143) (n := 88) dX6_ask_85 (by decide) rfl (fun c_85 => ?_) (fun c_85 => ?_)
    · rw [nI_ltI (by omega) (by omega)] at c_85
      have ee : n = 21 := by omega
      subst ee
      have h0 := hq τ hscr
      obtain ⟨z1, z2, z3⟩ := aa_end (r := ak F D 21) (w := w) (fun m hm => by have := hak.2 m hm; omega)
      refine J_iload (i := 5) (n := 145) dX6_ask_143 rfl rfl ?_
      refine J_bipush (n := 147) dX6_ask_145 kB_m4 rfl ?_
      refine J_icmp_eq (tgt := 154) (n := 150) dX6_ask_147 (by decide) rfl (fun c_147 => ?_) (fun c_147 => ?_)
      · refine J_iload (i := 5) (n := 156) dX6_ask_154 rfl rfl ?_
        refine J_goto (tgt := 161) dX6_ask_156 (by decide) ?_
        refine J_iret dX6_ask_161 rfl (kN_i _) ?_
        first
        | (rw [z1 c_147] at h0; exact h0)
        | (rw [z2 c_147 c_151] at h0; exact h0)
        | (rw [z3 c_147 c_151] at h0; exact h0)
      · refine J_iload_n (i := 2) (n := 151) dX6_ask_150 rfl rfl rfl ?_
        refine J_if_ne (tgt := 159) (n := 154) dX6_ask_151 (by decide) rfl (fun c_151 => ?_) (fun c_151 => ?_)
        · refine J_iload (i := 4) (n := 161) dX6_ask_159 rfl rfl ?_
          refine J_iret dX6_ask_161 rfl (kN_i _) ?_
          first
          | (rw [z1 c_147] at h0; exact h0)
          | (rw [z2 c_147 c_151] at h0; exact h0)
          | (rw [z3 c_147 c_151] at h0; exact h0)
        · refine J_iload (i := 5) (n := 156) dX6_ask_154 rfl rfl ?_
          refine J_goto (tgt := 161) dX6_ask_156 (by decide) ?_
          refine J_iret dX6_ask_161 rfl (kN_i _) ?_
          first
          | (rw [z1 c_147] at h0; exact h0)
          | (rw [z2 c_147 c_151] at h0; exact h0)
          | (rw [z3 c_147 c_151] at h0; exact h0)
    · rw [nI_ltI (by omega) (by omega)] at c_85
      refine J_aload_n (i := 0) (n := 89) dX6_ask_88 rfl rfl rfl ?_
      refine J_iload_n (i := 1) (n := 90) dX6_ask_89 rfl rfl rfl ?_
      refine J_iload_n (i := 3) (n := 91) dX6_ask_90 rfl rfl rfl ?_
      refine J_callVr (n := 94) wS_X6_mostAtOneDoor (c_G_most (F := F) (D := D n) (d + 10) hj (fun q hq0 => by rw [hD]; exact ⟨((hbr q hq0).2.1 j (by rw [pw_days_f _ _ _ (by decide) (by decide) (by decide)]; exact hj6)).2.1, ((pw_days_ok (pw_a_ok hO (by omega)) n).2.1 j (by rw [pw_days_f _ _ _ (by decide) (by decide) (by decide)]; exact hj6)).2.1⟩) ⟨rfl, rfl⟩) dX6_ask_91 wm_X6_212 ⟨wM_X6_mostAtOneDoor, wV_X6_mostAtOneDoor⟩ rfl (T_recv (by decide) (by decide)) rfl rfl (Nat.le_of_ble_eq_true rfl) rfl ?_
      refine J_istore (i := 7) (n := 96) (lv' := [(0, _), (1, _), (2, _), (3, _), (4, _), (5, _), (6, _), (7, _)]) dX6_ask_94 (by decide) rfl rfl ?_
      refine J_iload (i := 7) (n := 98) dX6_ask_96 rfl rfl ?_
      refine J_iload (i := 4) (n := 100) dX6_ask_98 rfl rfl ?_
      refine J_icmp_ge (tgt := 111) (n := 103) dX6_ask_100 (by decide) rfl (fun c_100 => ?_) (fun c_100 => ?_)
      · refine J_iconst (n := 112) dX6_ask_111 kI_0 rfl ?_
        refine J_istore (i := 8) (n := 114) (lv' := [(0, _), (1, _), (2, _), (3, _), (4, _), (5, _), (6, _), (7, _), (8, _)]) dX6_ask_112 (by decide) rfl rfl ?_
        refine j_ask_114 d hO hd9 hj (by omega) (fun τ1 s1 b1 => ?_) 5 0 τ (by omega) (by omega) hscr (fun q hq0 => by rw [if_neg (by omega)]; exact hbr q hq0)
        have h0 := ihu (n + 1) τ1 (by omega) (by omega) s1 b1
        first
        | (rw [hr] at h0
           exact h0)
        | (rw [nI_leI (by omega) (by omega)] at c_100
           have hr : ak F D (n + 1) = ak F D n := if_neg (by omega)
           rw [hr] at h0
           exact h0)
      · rw [nI_leI (by omega) (by omega)] at c_100
        have hr : ak F D (n + 1) = (mo F (D n) 12, some n) := if_pos (by omega)
        refine J_iload (i := 7) (n := 105) dX6_ask_103 rfl rfl ?_
        refine J_istore (i := 4) (n := 107) (lv' := [(0, _), (1, _), (2, _), (3, _), (4, _), (5, _), (6, _), (7, _)]) dX6_ask_105 (by decide) rfl rfl ?_
        refine J_iload (i := 6) (n := 109) dX6_ask_107 rfl rfl ?_
        refine J_istore (i := 5) (n := 111) (lv' := [(0, _), (1, _), (2, _), (3, _), (4, _), (5, _), (6, _), (7, _)]) dX6_ask_109 (by decide) rfl rfl ?_
        refine J_iconst (n := 112) dX6_ask_111 kI_0 rfl ?_
        refine J_istore (i := 8) (n := 114) (lv' := [(0, _), (1, _), (2, _), (3, _), (4, _), (5, _), (6, _), (7, _), (8, _)]) dX6_ask_112 (by decide) rfl rfl ?_
        refine j_ask_114 d hO hd9 hj (by omega) (fun τ1 s1 b1 => ?_) 5 0 τ (by omega) (by omega) hscr (fun q hq0 => by rw [if_neg (by omega)]; exact hbr q hq0)
        have h0 := ihu (n + 1) τ1 (by omega) (by omega) s1 b1
        first
        | (rw [hr] at h0
           exact h0)
        | (rw [nI_leI (by omega) (by omega)] at c_100
           have hr : ak F D (n + 1) = ak F D n := if_neg (by omega)
           rw [hr] at h0
           exact h0)
set_option maxHeartbeats 4000000 in
set_option maxRecDepth 100000 in
theorem c_G_ask {G : gx_G} {σ : gs_S} {Q : Option Value → gx_Hp → Prop} {S : pS} (d : Nat) (g w : Int32) (hS : SOk S) (hc : cR σ S) (hq : ∀ τ, cR τ S → τ 7 0 = σ 7 0 → Q (some (.int (sp_ask S g w))) (hp G τ)) : gx_K G yX6_ask mX6_ask (d + 12) 0 0 [.ref (gs_a G 6 0 0), .int g, .int w] (hp G σ) Q := by
  obtain ⟨hw, hs⟩ := hc.1
  have hO := hS.1.1
  have h4 : S.1.1.2.2 6 ≤ 4 := hO.2.2.2.2.1
  have h6 : S.1.1.2.2 7 ≤ 6 := hO.2.2.2.2.2.1
  have hm11 : S.1.1.2.2 8 ≤ 11 := hO.2.2.2.2.2.2.1
  have hn9 : S.1.1.2.2 9 ≤ 9999 := hO.2.2.2.2.2.2.2
  have hd9 : S.1.1.2.2 10 ≤ 999 := hS.1.2.2.1
  have e6 := hw.2.2.2.2 6 (by decide) (by decide)
  have e7 := hw.2.2.2.2 7 (by decide) (by decide)
  have e8 := hw.2.2.2.2 8 (by decide) (by decide)
  have e9 := hw.2.2.2.2 9 (by decide) (by decide)
  have e10 := hw.2.2.2.2 10 (by decide) (by decide)
  refine gx_K.of' (lv := [(0, _), (1, _), (2, _)]) (by decide) rfl (by decide) (Nat.le_of_ble_eq_true rfl) rfl ?_
  refine J_aload_n (i := 0) (n := 1) dX6_ask_0 rfl rfl rfl ?_
  refine J_iload_n (i := 1) (n := 2) dX6_ask_1 rfl rfl rfl ?_
  refine J_callVr (n := 5) wS_X6_isGlove (c_isGlove (d + 10) g hw hO ⟨rfl, rfl⟩) dX6_ask_2 wm_X6_121 ⟨wM_X6_isGlove, wV_X6_isGlove⟩ rfl (T_recv (by decide) (by decide)) rfl rfl (Nat.le_of_ble_eq_true rfl) rfl ?_
  refine J_if_eq (tgt := 16) (n := 8) dX6_ask_5 (by decide) rfl (fun c_5 => ?_) (fun c_5 => ?_)
  · refine J_iconst (n := 17) dX6_ask_16 kI_m1 rfl ?_
    refine J_iret dX6_ask_17 rfl (kN_i _) ?_
    unfold sp_ask at hq
    rw [if_neg (by
      first
      | (rw [nb_0] at c_5; rw [show isG S g = false from c_5, Bool.false_and]; decide)
      | (rw [nb_0] at c_13; rw [c_13, Bool.and_false]; decide))] at hq
    exact hq σ hc rfl
  · refine J_iload_n (i := 2) (n := 9) dX6_ask_8 rfl rfl rfl ?_
    refine J_iconst (n := 10) dX6_ask_9 kI_1 rfl ?_
    refine J_callSr (n := 13) wS_X6_isWithin (c_isWithin (d + 11) w 1 ⟨rfl, rfl⟩) dX6_ask_10 wm_X6_51 wT_X6_isWithin rfl rfl (Nat.le_of_ble_eq_true rfl) rfl ?_
    refine J_if_ne (tgt := 18) (n := 16) dX6_ask_13 (by decide) rfl (fun c_13 => ?_) (fun c_13 => ?_)
    · rw [nb_t] at c_5 c_13
      unfold sp_ask at hq
      rw [if_pos (by rw [show isG S g = true from c_5, c_13]; rfl)] at hq
      obtain ⟨j, hj, rfl⟩ := isG_of (S := S) c_5 hO
      rw [nat_nI (by omega)] at hq
      refine J_aload_n (i := 0) (n := 19) dX6_ask_18 rfl rfl rfl ?_
      refine J_iload_n (i := 1) (n := 20) dX6_ask_19 rfl rfl rfl ?_
      refine J_iconst (n := 21) dX6_ask_20 kI_0 rfl ?_
      refine J_callVx (n := 24) wS_X6_partsAsSeen (K_eta 5 1 (c_G_partsAsSeen (Q := fun r h => r = some (.int (bo (Fk S 1 j) (3 + 1))) ∧ ∃ t1, h = hp G (gs_set σ 5 1 t1)) (d + 4) (k := 0) (B := 3) hs hS.1.2.2.2 hw hO hd9 hj (by omega) (fun t1 => ⟨rfl, t1, rfl⟩))) dX6_ask_21 wm_X6_204 ⟨wM_X6_partsAsSeen, wV_X6_partsAsSeen⟩ rfl (T_recv (by decide) (by decide)) rfl rfl (Nat.le_of_ble_eq_true rfl) rfl (fun r h1 hq1 => ?_)
      obtain ⟨rfl, t1, rfl⟩ := hq1
      refine J_istore_n (i := 3) (n := 25) (lv' := [(0, _), (1, _), (2, _), (3, _)]) dX6_ask_24 rfl (by decide) rfl rfl ?_
      refine J_iconst (n := 26) dX6_ask_25 kI_0 rfl ?_
      refine J_istore (i := 4) (n := 28) (lv' := [(0, _), (1, _), (2, _), (3, _), (4, _)]) dX6_ask_26 (by decide) rfl rfl ?_
      refine j_ask_28 (σ := σ) (p := S.1.1) (j := j) d hO hd9 (by omega) hw (fun τ hscr hbr => ?_) 5 0 _ (by omega) (by omega) (fun c i hn => gs_ne (fun q => hn (Or.inl ⟨q.1, by omega, by omega⟩))) (fun q hq0 => absurd hq0 (Nat.not_lt_zero _))
      refine J_iload_n (i := 3) (n := 69) dX6_ask_68 rfl rfl rfl ?_
      have hfin := j_ask_81 (σ := σ) (Q := Q) (p := S.1.1) (j := j) (w := w) (F := Fk S 1 j) (D := Dk S j) d hO hd9 (by omega) (fun _ _ => rfl) hj (fun τ1 hs1 => hq τ1 (hc.scr hs1) (hs1 7 0 (by unfold isScr; omega))) 22 0 τ (by omega) (by omega) hscr hbr
      rw [bo_bits]
      refine J_callSr (n := 72) wS_J6_bitCount_0f7a4 (c_bitCount (d + 11) (Fk S 1 j) ⟨rfl, rfl⟩) dX6_ask_69 wm_X6_207 wT_J6_bitCount_0f7a4 rfl rfl (Nat.le_of_ble_eq_true rfl) rfl ?_
      rw [← bo_bits, ← cu_cnt4]
      refine J_istore (i := 4) (n := 74) (lv' := [(0, _), (1, _), (2, _), (3, _), (4, _)]) dX6_ask_72 (by decide) rfl rfl ?_
      refine J_bipush (n := 76) dX6_ask_74 kB_m4 rfl ?_
      refine J_istore (i := 5) (n := 78) (lv' := [(0, _), (1, _), (2, _), (3, _), (4, _), (5, _)]) dX6_ask_76 (by decide) rfl rfl ?_
      refine J_iconst (n := 79) dX6_ask_78 kI_0 rfl ?_
      refine J_istore (i := 6) (n := 81) (lv' := [(0, _), (1, _), (2, _), (3, _), (4, _), (5, _), (6, _)]) dX6_ask_79 (by decide) rfl rfl ?_
      exact hfin
    · refine J_iconst (n := 17) dX6_ask_16 kI_m1 rfl ?_
      refine J_iret dX6_ask_17 rfl (kN_i _) ?_
      unfold sp_ask at hq
      rw [if_neg (by
        first
        | (rw [nb_0] at c_5; rw [show isG S g = false from c_5, Bool.false_and]; decide)
        | (rw [nb_0] at c_13; rw [c_13, Bool.and_false]; decide))] at hq
      exact hq σ hc rfl

