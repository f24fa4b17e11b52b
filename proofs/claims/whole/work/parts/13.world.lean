theorem va_cpy_in {f g : Nat → Int32} {n q : Nat} (h : q < n) : va_cpy f g 0 0 n q = f q := by
  rw [pk_cpy_in (Nat.zero_le _) (by omega)]
  congr 1
  omega
set_option maxHeartbeats 4000000 in
set_option maxRecDepth 100000 in
theorem c_W_become {G : gx_G} {σ : gs_S} {Q : Option Value → gx_Hp → Prop} {p : pw} {w : gs_Ob} (d : Nat) {i j : Nat} (hi : i < gs_cnt 5) (hj : j < gs_cnt 5) (hij : j ≠ i) (hw : wR (σ 5 j) p) (hO : pOk p) (hq : ∀ w1, wR w1 p → Q none (hp G (gs_set σ 5 i w1))) : gx_K G yX5_become mX5_become (d + 1) 0 0 [.ref (gs_a G 5 i 0), .ref (gs_a G 5 j 0)] (hp G (gs_set σ 5 i w)) Q := by
  refine gx_K.of' (lv := [(0, _), (1, _)]) (by decide) rfl (by decide) (Nat.le_of_ble_eq_true rfl) rfl ?_
  refine J_aload_n (i := 1) (n := 1) dX5_become_0 rfl rfl rfl ?_
  refine T_getO (k := 0) (n := 4) wk_X5 dX5_become_1 wf_X5_9 (by decide) (by first | assumption | decide) rfl rfl ?_
  refine J_iconst (n := 5) dX5_become_4 kI_0 rfl ?_
  refine J_aload_n (i := 0) (n := 6) dX5_become_5 rfl rfl rfl ?_
  refine T_get (k := 0) (n := 9) wk_X5 dX5_become_6 wf_X5_9 (by decide) (by first | assumption | decide) rfl rfl ?_
  refine J_iconst (n := 10) dX5_become_9 kI_0 rfl ?_
  refine J_bipush (n := 12) dX5_become_10 kB_12 rfl ?_
  refine T_copy (c := 5) (k := 0) (L := 12) (N := 12) (n := 15) dX5_become_12 wm_X5_52 (by decide) hi hj hij (fun _ _ => rfl) (by decide) (Nat.le_of_ble_eq_true rfl) rfl ?_
  refine J_aload_n (i := 1) (n := 16) dX5_become_15 rfl rfl rfl ?_
  refine T_getO (k := 1) (n := 19) wk_X5 dX5_become_16 wf_X5_15 (by decide) (by first | assumption | decide) rfl rfl ?_
  refine J_iconst (n := 20) dX5_become_19 kI_0 rfl ?_
  refine J_aload_n (i := 0) (n := 21) dX5_become_20 rfl rfl rfl ?_
  refine T_get (k := 1) (n := 24) wk_X5 dX5_become_21 wf_X5_15 (by decide) (by first | assumption | decide) rfl rfl ?_
  refine J_iconst (n := 25) dX5_become_24 kI_0 rfl ?_
  refine J_iconst (n := 26) dX5_become_25 kI_4 rfl ?_
  refine T_copy (c := 5) (k := 1) (L := 4) (N := 4) (n := 29) dX5_become_26 wm_X5_52 (by decide) hi hj hij (fun _ _ => rfl) (by decide) (Nat.le_of_ble_eq_true rfl) rfl ?_
  refine J_aload_n (i := 1) (n := 30) dX5_become_29 rfl rfl rfl ?_
  refine T_getO (k := 2) (n := 33) wk_X5 dX5_become_30 wf_X5_18 (by decide) (by first | assumption | decide) rfl rfl ?_
  refine J_iconst (n := 34) dX5_become_33 kI_0 rfl ?_
  refine J_aload_n (i := 0) (n := 35) dX5_become_34 rfl rfl rfl ?_
  refine T_get (k := 2) (n := 38) wk_X5 dX5_become_35 wf_X5_18 (by decide) (by first | assumption | decide) rfl rfl ?_
  refine J_iconst (n := 39) dX5_become_38 kI_0 rfl ?_
  refine J_iconst (n := 40) dX5_become_39 kI_4 rfl ?_
  refine T_copy (c := 5) (k := 2) (L := 4) (N := 4) (n := 43) dX5_become_40 wm_X5_52 (by decide) hi hj hij (fun _ _ => rfl) (by decide) (Nat.le_of_ble_eq_true rfl) rfl ?_
  refine J_aload_n (i := 1) (n := 44) dX5_become_43 rfl rfl rfl ?_
  refine T_getO (k := 3) (n := 47) wk_X5 dX5_become_44 wf_X5_21 (by decide) (by first | assumption | decide) rfl rfl ?_
  refine J_iconst (n := 48) dX5_become_47 kI_0 rfl ?_
  refine J_aload_n (i := 0) (n := 49) dX5_become_48 rfl rfl rfl ?_
  refine T_get (k := 3) (n := 52) wk_X5 dX5_become_49 wf_X5_21 (by decide) (by first | assumption | decide) rfl rfl ?_
  refine J_iconst (n := 53) dX5_become_52 kI_0 rfl ?_
  refine J_iconst (n := 54) dX5_become_53 kI_4 rfl ?_
  refine T_copy (c := 5) (k := 3) (L := 4) (N := 4) (n := 57) dX5_become_54 wm_X5_52 (by decide) hi hj hij (fun _ _ => rfl) (by decide) (Nat.le_of_ble_eq_true rfl) rfl ?_
  refine J_aload_n (i := 1) (n := 58) dX5_become_57 rfl rfl rfl ?_
  refine T_getO (k := 4) (n := 61) wk_X5 dX5_become_58 wf_X5_24 (by decide) (by first | assumption | decide) rfl rfl ?_
  refine J_iconst (n := 62) dX5_become_61 kI_0 rfl ?_
  refine J_aload_n (i := 0) (n := 63) dX5_become_62 rfl rfl rfl ?_
  refine T_get (k := 4) (n := 66) wk_X5 dX5_become_63 wf_X5_24 (by decide) (by first | assumption | decide) rfl rfl ?_
  refine J_iconst (n := 67) dX5_become_66 kI_0 rfl ?_
  refine J_bipush (n := 69) dX5_become_67 kB_6 rfl ?_
  refine T_copy (c := 5) (k := 4) (L := 6) (N := 6) (n := 72) dX5_become_69 wm_X5_52 (by decide) hi hj hij (fun _ _ => rfl) (by decide) (Nat.le_of_ble_eq_true rfl) rfl ?_
  refine J_aload_n (i := 0) (n := 73) dX5_become_72 rfl rfl rfl ?_
  refine J_aload_n (i := 1) (n := 74) dX5_become_73 rfl rfl rfl ?_
  refine T_getO (k := 5) (n := 77) wk_X5 dX5_become_74 wf_X5_33 (by decide) (by first | assumption | decide) rfl rfl ?_
  rw [gs_neI hij]
  refine T_putI (k := 5) (n := 80) wk_X5 dX5_become_77 wf_X5_33 (by decide) (by first | assumption | decide) (kN_i _) rfl (Nat.le_of_ble_eq_true rfl) rfl rfl ?_
  refine J_aload_n (i := 0) (n := 81) dX5_become_80 rfl rfl rfl ?_
  refine J_aload_n (i := 1) (n := 82) dX5_become_81 rfl rfl rfl ?_
  refine T_getO (k := 6) (n := 85) wk_X5 dX5_become_82 wf_X5_37 (by decide) (by first | assumption | decide) rfl rfl ?_
  rw [gs_neI hij]
  refine T_putI (k := 6) (n := 88) wk_X5 dX5_become_85 wf_X5_37 (by decide) (by first | assumption | decide) (kN_i _) rfl (Nat.le_of_ble_eq_true rfl) rfl rfl ?_
  refine J_aload_n (i := 0) (n := 89) dX5_become_88 rfl rfl rfl ?_
  refine J_aload_n (i := 1) (n := 90) dX5_become_89 rfl rfl rfl ?_
  refine T_getO (k := 7) (n := 93) wk_X5 dX5_become_90 wf_X5_40 (by decide) (by first | assumption | decide) rfl rfl ?_
  rw [gs_neI hij]
  refine T_putI (k := 7) (n := 96) wk_X5 dX5_become_93 wf_X5_40 (by decide) (by first | assumption | decide) (kN_i _) rfl (Nat.le_of_ble_eq_true rfl) rfl rfl ?_
  refine J_aload_n (i := 0) (n := 97) dX5_become_96 rfl rfl rfl ?_
  refine J_aload_n (i := 1) (n := 98) dX5_become_97 rfl rfl rfl ?_
  refine T_getO (k := 8) (n := 101) wk_X5 dX5_become_98 wf_X5_43 (by decide) (by first | assumption | decide) rfl rfl ?_
  rw [gs_neI hij]
  refine T_putI (k := 8) (n := 104) wk_X5 dX5_become_101 wf_X5_43 (by decide) (by first | assumption | decide) (kN_i _) rfl (Nat.le_of_ble_eq_true rfl) rfl rfl ?_
  refine J_aload_n (i := 0) (n := 105) dX5_become_104 rfl rfl rfl ?_
  refine J_aload_n (i := 1) (n := 106) dX5_become_105 rfl rfl rfl ?_
  refine T_getO (k := 9) (n := 109) wk_X5 dX5_become_106 wf_X5_46 (by decide) (by first | assumption | decide) rfl rfl ?_
  rw [gs_neI hij]
  refine T_putI (k := 9) (n := 112) wk_X5 dX5_become_109 wf_X5_46 (by decide) (by first | assumption | decide) (kN_i _) rfl (Nat.le_of_ble_eq_true rfl) rfl rfl ?_
  refine J_aload_n (i := 0) (n := 113) dX5_become_112 rfl rfl rfl ?_
  refine J_aload_n (i := 1) (n := 114) dX5_become_113 rfl rfl rfl ?_
  refine T_getO (k := 10) (n := 117) wk_X5 dX5_become_114 wf_X5_49 (by decide) (by first | assumption | decide) rfl rfl ?_
  rw [gs_neI hij]
  refine T_putI (k := 10) (n := 120) wk_X5 dX5_become_117 wf_X5_49 (by decide) (by first | assumption | decide) (kN_i _) rfl (Nat.le_of_ble_eq_true rfl) rfl rfl ?_
  refine J_vret dX5_become_120 rfl ?_
  refine hq _ (wR_copy hw hO (fun q hq => ?_) (fun q hq => ?_) (fun q hq => ?_) (fun q hq => ?_) (fun q hq => ?_) (fun k h1 h2 => ?_))
  · exact va_cpy_in hq
  · exact va_cpy_in hq
  · exact va_cpy_in hq
  · exact va_cpy_in hq
  · exact va_cpy_in hq
  · rcases (show k = 5 ∨ k = 6 ∨ k = 7 ∨ k = 8 ∨ k = 9 ∨ k = 10 by omega) with rfl | rfl | rfl | rfl | rfl | rfl <;> simp [gs_f, upd]

set_option maxHeartbeats 4000000 in
set_option maxRecDepth 100000 in
theorem c_W_makeEmpty {G : gx_G} {σ : gs_S} {Q : Option Value → gx_Hp → Prop} {w : gs_Ob} (d : Nat) {i : Nat} (hi : i < gs_cnt 5) (hq : ∀ w1, wR w1 pw_empty → Q none (hp G (gs_set σ 5 i w1))) : gx_K G yX5_makeEmpty mX5_makeEmpty (d + 1) 0 0 [.ref (gs_a G 5 i 0)] (hp G (gs_set σ 5 i w)) Q := by
  refine gx_K.of' (lv := [(0, _)]) (by decide) rfl (by decide) (Nat.le_of_ble_eq_true rfl) rfl ?_
  refine J_aload_n (i := 0) (n := 1) dX5_makeEmpty_0 rfl rfl rfl ?_
  refine T_get (k := 0) (n := 4) wk_X5 dX5_makeEmpty_1 wf_X5_9 (by decide) (by first | assumption | decide) rfl rfl ?_
  refine J_iconst (n := 5) dX5_makeEmpty_4 kI_0 rfl ?_
  refine J_callSx (n := 8) wS_J7_fill_53178 (c_fill_W (Q := fun r h => r = none ∧ ∃ w1 : gs_Ob, (∀ q, q < 12 → w1.1 0 q = nI 0) ∧ h = hp G (gs_set σ 5 i w1)) d (nI 0) hi (fun w1 h1 _ _ => ⟨rfl, w1, h1, rfl⟩)) dX5_makeEmpty_5 wm_X5_27 wT_J7_fill_53178 rfl rfl (Nat.le_of_ble_eq_true rfl) rfl (fun r h1 hq1 => ?_)
  obtain ⟨rfl, w1, hw1, rfl⟩ := hq1
  refine J_aload_n (i := 0) (n := 9) dX5_makeEmpty_8 rfl rfl rfl ?_
  refine J_iconst (n := 10) dX5_makeEmpty_9 kI_0 rfl ?_
  refine T_putI (k := 5) (n := 13) wk_X5 dX5_makeEmpty_10 wf_X5_33 (by decide) (by first | assumption | decide) (kN_i _) rfl (Nat.le_of_ble_eq_true rfl) rfl rfl ?_
  refine J_aload_n (i := 0) (n := 14) dX5_makeEmpty_13 rfl rfl rfl ?_
  refine J_iconst (n := 15) dX5_makeEmpty_14 kI_0 rfl ?_
  refine T_putI (k := 6) (n := 18) wk_X5 dX5_makeEmpty_15 wf_X5_37 (by decide) (by first | assumption | decide) (kN_i _) rfl (Nat.le_of_ble_eq_true rfl) rfl rfl ?_
  refine J_aload_n (i := 0) (n := 19) dX5_makeEmpty_18 rfl rfl rfl ?_
  refine J_iconst (n := 20) dX5_makeEmpty_19 kI_0 rfl ?_
  refine T_putI (k := 7) (n := 23) wk_X5 dX5_makeEmpty_20 wf_X5_40 (by decide) (by first | assumption | decide) (kN_i _) rfl (Nat.le_of_ble_eq_true rfl) rfl rfl ?_
  refine J_aload_n (i := 0) (n := 24) dX5_makeEmpty_23 rfl rfl rfl ?_
  refine J_iconst (n := 25) dX5_makeEmpty_24 kI_0 rfl ?_
  refine T_putI (k := 8) (n := 28) wk_X5 dX5_makeEmpty_25 wf_X5_43 (by decide) (by first | assumption | decide) (kN_i _) rfl (Nat.le_of_ble_eq_true rfl) rfl rfl ?_
  refine J_aload_n (i := 0) (n := 29) dX5_makeEmpty_28 rfl rfl rfl ?_
  refine J_iconst (n := 30) dX5_makeEmpty_29 kI_0 rfl ?_
  refine T_putI (k := 9) (n := 33) wk_X5 dX5_makeEmpty_30 wf_X5_46 (by decide) (by first | assumption | decide) (kN_i _) rfl (Nat.le_of_ble_eq_true rfl) rfl rfl ?_
  refine J_aload_n (i := 0) (n := 34) dX5_makeEmpty_33 rfl rfl rfl ?_
  refine J_iconst (n := 35) dX5_makeEmpty_34 kI_0 rfl ?_
  refine T_putI (k := 10) (n := 38) wk_X5 dX5_makeEmpty_35 wf_X5_49 (by decide) (by first | assumption | decide) (kN_i _) rfl (Nat.le_of_ble_eq_true rfl) rfl rfl ?_
  refine J_vret dX5_makeEmpty_38 rfl ?_
  refine hq _ ⟨fun j hj => hw1 j hj, fun j hj => absurd hj (Nat.not_lt_zero _), fun j hj => absurd hj (Nat.not_lt_zero _), ?_, fun k h1 h2 => ?_⟩
  · simp [gs_f, upd, pw_bits, pw_empty]
  · rcases (show k = 6 ∨ k = 7 ∨ k = 8 ∨ k = 9 ∨ k = 10 by omega) with rfl | rfl | rfl | rfl | rfl <;> simp [gs_f, upd, pw_empty]

/-- a number between 0 and a greatest one -/
def ix_in (v : Int32) (n : Nat) : Bool := decide (¬ v < 0) && decide (¬ nI n < v)
theorem ix_of {v : Int32} {n : Nat} (h : ix_in v n = true) (hn : n < 2 ^ 31) : ∃ j, j ≤ n ∧ v = nI j := by
  unfold ix_in at h
  simp only [Bool.and_eq_true, decide_eq_true_eq] at h
  obtain ⟨h1, h2⟩ := h
  obtain ⟨j, hj, rfl⟩ := nI_of h1
  exact ⟨j, by rcases Nat.lt_or_ge n j with q | q; · exact absurd (nI_lt q hj) h2
               · exact q, rfl⟩
theorem ix_nI {j n : Nat} (hj : j < 2 ^ 31) (hn : n < 2 ^ 31) : ix_in (nI j) n = decide (j ≤ n) := by
  unfold ix_in
  rw [decide_eq_true (nI_pos hj), Bool.true_and]
  exact decide_eq_decide.mpr (by rw [nI_ltI hn hj]; omega)
theorem nb_t (b : Bool) : ¬ nI b.toNat = 0 ↔ b = true := by rw [nb_0]; cases b <;> simp
set_option maxHeartbeats 4000000 in
set_option maxRecDepth 100000 in
theorem c_isWithin {G : gx_G} {h : gx_Hp} {Q : Option Value → gx_Hp → Prop} (d : Nat) (v : Int32) (n : Nat) (hq : Q (some (.int (nI (ix_in v n).toNat))) h) : gx_K G yX6_isWithin mX6_isWithin d 0 0 [.int v, .int (nI n)] h Q := by
  refine gx_K.of' (lv := [(0, _), (1, _)]) (by decide) rfl (by decide) (Nat.le_of_ble_eq_true rfl) rfl ?_
  refine J_iload_n (i := 0) (n := 1) dX6_isWithin_0 rfl rfl rfl ?_
  refine J_if_lt (tgt := 13) (n := 4) dX6_isWithin_1 (by decide) rfl (fun c_1 => ?_) (fun c_1 => ?_)
  · refine J_iconst (n := 14) dX6_isWithin_13 kI_0 rfl ?_
    refine J_iret dX6_isWithin_14 rfl (by first | exact kN_0 | exact kN_1) ?_
    unfold ix_in at hq
    first
    | (rw [decide_eq_false (Classical.not_not.mpr c_1)] at hq; exact hq)
    | (rw [decide_eq_true c_1, decide_eq_false (Classical.not_not.mpr c_6)] at hq; exact hq)
    | (rw [decide_eq_true c_1, decide_eq_true c_6] at hq; exact hq)
  · refine J_iload_n (i := 0) (n := 5) dX6_isWithin_4 rfl rfl rfl ?_
    refine J_iload_n (i := 1) (n := 6) dX6_isWithin_5 rfl rfl rfl ?_
    refine J_icmp_gt (tgt := 13) (n := 9) dX6_isWithin_6 (by decide) rfl (fun c_6 => ?_) (fun c_6 => ?_)
    · refine J_iconst (n := 14) dX6_isWithin_13 kI_0 rfl ?_
      refine J_iret dX6_isWithin_14 rfl (by first | exact kN_0 | exact kN_1) ?_
      unfold ix_in at hq
      first
      | (rw [decide_eq_false (Classical.not_not.mpr c_1)] at hq; exact hq)
      | (rw [decide_eq_true c_1, decide_eq_false (Classical.not_not.mpr c_6)] at hq; exact hq)
      | (rw [decide_eq_true c_1, decide_eq_true c_6] at hq; exact hq)
    · refine J_iconst (n := 10) dX6_isWithin_9 kI_1 rfl ?_
      refine J_goto (tgt := 14) dX6_isWithin_10 (by decide) ?_
      refine J_iret dX6_isWithin_14 rfl (by first | exact kN_0 | exact kN_1) ?_
      unfold ix_in at hq
      first
      | (rw [decide_eq_false (Classical.not_not.mpr c_1)] at hq; exact hq)
      | (rw [decide_eq_true c_1, decide_eq_false (Classical.not_not.mpr c_6)] at hq; exact hq)
      | (rw [decide_eq_true c_1, decide_eq_true c_6] at hq; exact hq)

set_option maxHeartbeats 4000000 in
set_option maxRecDepth 100000 in
theorem c_isWithin1 {G : gx_G} {h : gx_Hp} {Q : Option Value → gx_Hp → Prop} (d : Nat) (v : Int32) (n : Nat) (hn : n < 2 ^ 31) (hq : Q (some (.int (nI (!decide (n = 0) && ix_in v (n - 1)).toNat))) h) : gx_K G yX6_isWithin mX6_isWithin d 0 0 [.int v, .int (nI n - nI 1)] h Q := by
  have e0 : n = 0 → nI n - nI 1 = -1 := fun q => by rw [q]; decide +kernel
  have e1 : n ≠ 0 → nI n - nI 1 = nI (n - 1) := fun q => pk_sub (by omega)
  refine gx_K.of' (lv := [(0, _), (1, _)]) (by decide) rfl (by decide) (Nat.le_of_ble_eq_true rfl) rfl ?_
  refine J_iload_n (i := 0) (n := 1) dX6_isWithin_0 rfl rfl rfl ?_
  refine J_if_lt (tgt := 13) (n := 4) dX6_isWithin_1 (by decide) rfl (fun c_1 => ?_) (fun c_1 => ?_)
  · refine J_iconst (n := 14) dX6_isWithin_13 kI_0 rfl ?_
    refine J_iret dX6_isWithin_14 rfl (by first | exact kN_0 | exact kN_1) ?_
    unfold ix_in at hq
    by_cases hz : n = 0
    · rw [decide_eq_true hz] at hq
      try rw [e0 hz] at c_6
      first | exact hq | exact absurd (Int32.lt_of_lt_of_le (by decide +kernel : (-1 : Int32) < 0) (Int32.not_lt.mp c_1)) c_6
    · rw [decide_eq_false hz] at hq
      try rw [e1 hz] at c_6
      first
      | (rw [decide_eq_false (Classical.not_not.mpr c_1)] at hq; exact hq)
      | (rw [decide_eq_true c_1, decide_eq_false (Classical.not_not.mpr c_6)] at hq; exact hq)
      | (rw [decide_eq_true c_1, decide_eq_true c_6] at hq; exact hq)
  · refine J_iload_n (i := 0) (n := 5) dX6_isWithin_4 rfl rfl rfl ?_
    refine J_iload_n (i := 1) (n := 6) dX6_isWithin_5 rfl rfl rfl ?_
    refine J_icmp_gt (tgt := 13) (n := 9) dX6_isWithin_6 (by decide) rfl (fun c_6 => ?_) (fun c_6 => ?_)
    · refine J_iconst (n := 14) dX6_isWithin_13 kI_0 rfl ?_
      refine J_iret dX6_isWithin_14 rfl (by first | exact kN_0 | exact kN_1) ?_
      unfold ix_in at hq
      by_cases hz : n = 0
      · rw [decide_eq_true hz] at hq
        try rw [e0 hz] at c_6
        first | exact hq | exact absurd (Int32.lt_of_lt_of_le (by decide +kernel : (-1 : Int32) < 0) (Int32.not_lt.mp c_1)) c_6
      · rw [decide_eq_false hz] at hq
        try rw [e1 hz] at c_6
        first
        | (rw [decide_eq_false (Classical.not_not.mpr c_1)] at hq; exact hq)
        | (rw [decide_eq_true c_1, decide_eq_false (Classical.not_not.mpr c_6)] at hq; exact hq)
        | (rw [decide_eq_true c_1, decide_eq_true c_6] at hq; exact hq)
    · refine J_iconst (n := 10) dX6_isWithin_9 kI_1 rfl ?_
      refine J_goto (tgt := 14) dX6_isWithin_10 (by decide) ?_
      refine J_iret dX6_isWithin_14 rfl (by first | exact kN_0 | exact kN_1) ?_
      unfold ix_in at hq
      by_cases hz : n = 0
      · rw [decide_eq_true hz] at hq
        try rw [e0 hz] at c_6
        first | exact hq | exact absurd (Int32.lt_of_lt_of_le (by decide +kernel : (-1 : Int32) < 0) (Int32.not_lt.mp c_1)) c_6
      · rw [decide_eq_false hz] at hq
        try rw [e1 hz] at c_6
        first
        | (rw [decide_eq_false (Classical.not_not.mpr c_1)] at hq; exact hq)
        | (rw [decide_eq_true c_1, decide_eq_false (Classical.not_not.mpr c_6)] at hq; exact hq)
        | (rw [decide_eq_true c_1, decide_eq_true c_6] at hq; exact hq)

set_option maxHeartbeats 4000000 in
set_option maxRecDepth 100000 in
theorem c_isDoor {G : gx_G} {h : gx_Hp} {Q : Option Value → gx_Hp → Prop} (d : Nat) (v : Int32) (hq : Q (some (.int (nI (ix_in v 11).toNat))) h) : gx_K G yX6_isDoor mX6_isDoor (d + 1) 0 0 [.int v] h Q := by
  refine gx_K.of' (lv := [(0, _)]) (by decide) rfl (by decide) (Nat.le_of_ble_eq_true rfl) rfl ?_
  refine J_iload_n (i := 0) (n := 1) dX6_isDoor_0 rfl rfl rfl ?_
  refine J_bipush (n := 3) dX6_isDoor_1 kB_11 rfl ?_
  refine J_callSr (n := 6) wS_X6_isWithin (c_isWithin d v 11 ⟨rfl, rfl⟩) dX6_isDoor_3 wm_X6_51 wT_X6_isWithin rfl rfl (Nat.le_of_ble_eq_true rfl) rfl ?_
  refine J_iret dX6_isDoor_6 rfl (kN_b _) ?_
  exact hq

set_option maxHeartbeats 4000000 in
set_option maxRecDepth 100000 in
theorem c_isSheet {G : gx_G} {h : gx_Hp} {Q : Option Value → gx_Hp → Prop} (d : Nat) (v : Int32) (hq : Q (some (.int (nI (ix_in v 3).toNat))) h) : gx_K G yX6_isSheet mX6_isSheet (d + 1) 0 0 [.int v] h Q := by
  refine gx_K.of' (lv := [(0, _)]) (by decide) rfl (by decide) (Nat.le_of_ble_eq_true rfl) rfl ?_
  refine J_iload_n (i := 0) (n := 1) dX6_isSheet_0 rfl rfl rfl ?_
  refine J_iconst (n := 2) dX6_isSheet_1 kI_3 rfl ?_
  refine J_callSr (n := 5) wS_X6_isWithin (c_isWithin d v 3 ⟨rfl, rfl⟩) dX6_isSheet_2 wm_X6_51 wT_X6_isWithin rfl rfl (Nat.le_of_ble_eq_true rfl) rfl ?_
  refine J_iret dX6_isSheet_5 rfl (kN_b _) ?_
  exact hq

set_option maxHeartbeats 4000000 in
set_option maxRecDepth 100000 in
theorem c_isGlove {G : gx_G} {σ : gs_S} {Q : Option Value → gx_Hp → Prop} {p : pw} (d : Nat) (v : Int32) (hw : wR (σ 5 0) p) (hO : pOk p) (hq : Q (some (.int (nI (!decide (p.2.2 6 = 0) && ix_in v (p.2.2 6 - 1)).toNat))) (hp G σ)) : gx_K G yX6_isGlove mX6_isGlove (d + 1) 0 0 [.ref (gs_a G 6 0 0), .int v] (hp G σ) Q := by
  have h4 : p.2.2 6 ≤ 4 := hO.2.2.2.2.1
  have e6 := hw.2.2.2.2 6 (by decide) (by decide)
  refine gx_K.of' (lv := [(0, _), (1, _)]) (by decide) rfl (by decide) (Nat.le_of_ble_eq_true rfl) rfl ?_
  refine J_iload_n (i := 1) (n := 1) dX6_isGlove_0 rfl rfl rfl ?_
  refine J_aload_n (i := 0) (n := 2) dX6_isGlove_1 rfl rfl rfl ?_
  refine T_getO (k := 0) (n := 5) wk_X6 dX6_isGlove_2 wf_X6_10 (by decide) (by first | assumption | decide) rfl rfl ?_
  refine T_getO (k := 6) (n := 8) wk_X5 dX6_isGlove_5 wf_X6_99 (by decide) (by first | assumption | decide) rfl rfl ?_
  rw [e6]
  refine J_iconst (n := 9) dX6_isGlove_8 kI_1 rfl ?_
  refine J_isub (n := 10) dX6_isGlove_9 rfl ?_
  refine J_callSr (n := 13) wS_X6_isWithin (c_isWithin1 d v (p.2.2 6) (by omega) ⟨rfl, rfl⟩) dX6_isGlove_10 wm_X6_51 wT_X6_isWithin rfl rfl (Nat.le_of_ble_eq_true rfl) rfl ?_
  refine J_iret dX6_isGlove_13 rfl (kN_b _) ?_
  exact hq

set_option maxHeartbeats 4000000 in
set_option maxRecDepth 100000 in
theorem c_isCall {G : gx_G} {σ : gs_S} {Q : Option Value → gx_Hp → Prop} {p : pw} (d : Nat) (v : Int32) (hw : wR (σ 5 0) p) (hO : pOk p) (hq : Q (some (.int (nI (!decide (p.2.2 7 = 0) && ix_in v (p.2.2 7 - 1)).toNat))) (hp G σ)) : gx_K G yX6_isCall mX6_isCall (d + 1) 0 0 [.ref (gs_a G 6 0 0), .int v] (hp G σ) Q := by
  have h6 : p.2.2 7 ≤ 6 := hO.2.2.2.2.2.1
  have e7 := hw.2.2.2.2 7 (by decide) (by decide)
  refine gx_K.of' (lv := [(0, _), (1, _)]) (by decide) rfl (by decide) (Nat.le_of_ble_eq_true rfl) rfl ?_
  refine J_iload_n (i := 1) (n := 1) dX6_isCall_0 rfl rfl rfl ?_
  refine J_aload_n (i := 0) (n := 2) dX6_isCall_1 rfl rfl rfl ?_
  refine T_getO (k := 0) (n := 5) wk_X6 dX6_isCall_2 wf_X6_10 (by decide) (by first | assumption | decide) rfl rfl ?_
  refine T_getO (k := 7) (n := 8) wk_X5 dX6_isCall_5 wf_X6_118 (by decide) (by first | assumption | decide) rfl rfl ?_
  rw [e7]
  refine J_iconst (n := 9) dX6_isCall_8 kI_1 rfl ?_
  refine J_isub (n := 10) dX6_isCall_9 rfl ?_
  refine J_callSr (n := 13) wS_X6_isWithin (c_isWithin1 d v (p.2.2 7) (by omega) ⟨rfl, rfl⟩) dX6_isCall_10 wm_X6_51 wT_X6_isWithin rfl rfl (Nat.le_of_ble_eq_true rfl) rfl ?_
  refine J_iret dX6_isCall_13 rfl (kN_b _) ?_
  exact hq

