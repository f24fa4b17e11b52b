def tix (w : Nat) : Nat := ([0, 1, 2, 6, 3, 4, 5] : List Nat).getD w 0
theorem tix_all : ∀ w, w < 7 → tix w < 7 ∧ sc (tix w) = wsp w := by decide
theorem eqs_iff (t : Nat → Nat) : ∀ (l : List Nat) (b : Nat), eqs t b l = true ↔ ∀ q, q < l.length → t (b + q) = l.getD q 0 := by
  intro l
  induction l with
  | nil => intro b; exact ⟨fun _ q hq => absurd hq (Nat.not_lt_zero _), fun _ => rfl⟩
  | cons c l ih =>
    intro b
    show (decide (t b = c) && eqs t (b + 1) l) = true ↔ _
    rw [Bool.and_eq_true, decide_eq_true_eq, ih]
    constructor
    · rintro ⟨h1, h2⟩ q hq
      cases q with
      | zero => exact h1
      | succ q =>
        have h3 := h2 q (by simpa using hq)
        rw [show b + (q + 1) = b + 1 + q by omega]
        simpa using h3
    · intro h
      refine ⟨by simpa using h 0 (by simp), fun q hq => ?_⟩
      have h3 := h (q + 1) (by simpa using hq)
      rw [show b + 1 + q = b + (q + 1) by omega]
      simpa using h3
set_option maxHeartbeats 4000000 in
set_option maxRecDepth 100000 in
theorem c_T_isSpelled {G : gx_G} {σ : gs_S} {Q : Option Value → gx_Hp → Prop} {v : gs_Ob} (d : Nat) {t : Nat → Nat} {L : Nat} (ht : tOk t L) (htp : ctp σ t L) {i b e : Nat} (hi : i < 7) (hbe : b ≤ e) (heL : e ≤ L) (h2 : v.2.1 2 = nI e) (h7 : v.2.1 7 = nI b) (hq : Q (some (.int (nI (decide (e - b = (sc i).length) && eqs t b (sc i)).toNat))) (hp G (gs_set σ 4 0 v))) : gx_K G yX4_isSpelled mX4_isSpelled (d + 4) 0 0 [.ref (gs_a G 4 0 0), .ref (G.2.2.2.1 i)] (hp G (gs_set σ 4 0 v)) Q := by
  have hL := ht.1
  obtain ⟨hsl, hl6⟩ := sc_len i hi
  have loop : e - b = (([6, 6, 3, 4, 5, 3, 4] : List Nat).getD i 0) → ∀ u j, 6 - j < u → j ≤ (([6, 6, 3, 4, 5, 3, 4] : List Nat).getD i 0) → (∀ q, q < j → t (b + q) = (sc i).getD q 0) → gx_J G mX4_isSpelled (d + 4) 0 0 Q 20 [(0, .ref (gs_a G 4 0 0)), (1, .ref (G.2.2.2.1 i)), (2, .int (nI j))] [] (hp G (gs_set σ 4 0 v)) := by
    intro hlen u
    induction u with
    | zero => intros; exact absurd (by assumption) (Nat.not_lt_zero _)
    | succ u ih =>
      intro j hu hj hp0
      refine J_iload_n (i := 2) (n := 21) dX4_isSpelled_20 rfl rfl rfl ?_
      refine J_aload_n (i := 1) (n := 22) dX4_isSpelled_21 rfl rfl rfl ?_
      have hcs_22 := c_Str_length (G := G) (h := hp G (gs_set σ 4 0 v)) (d + 2) hi
      refine J_callStr (kc := 0) (ks := 0) (n := 25) wS_J0_length_8abf5 hcs_22 hi dX4_isSpelled_22 wm_X4_139 ⟨wM_J0_length_8abf5, wV_J0_length_8abf5⟩ rfl rfl (Nat.le_of_ble_eq_true rfl) rfl ?_
      refine J_icmp_ge (tgt := 58) (n := 28) dX4_isSpelled_25 (by decide) rfl (fun c_25 => ?_) (fun c_25 => ?_)
      · refine J_iconst (n := 59) dX4_isSpelled_58 kI_1 rfl ?_
        refine J_iret dX4_isSpelled_59 rfl (by first | exact kN_0 | exact kN_1) ?_
        rw [nI_leI (by omega) (by omega)] at c_25
        rw [(eqs_iff t (sc i) b).mpr (fun q hq0 => hp0 q (by rw [hsl] at hq0; omega)), decide_eq_true (by rw [hsl]; exact hlen)] at hq
        exact hq
      · rw [nI_leI (by omega) (by omega)] at c_25
        have h127 := ht.2 (b + j) (by omega)
        have hc128 := (sc_byt i hi j (by omega)).2
        refine J_aload_n (i := 0) (n := 29) dX4_isSpelled_28 rfl rfl rfl ?_
        refine T_get (k := 0) (n := 32) wk_X4 dX4_isSpelled_29 wf_X4_12 (by decide) (by decide) rfl rfl ?_
        refine T_getO (k := 0) (n := 35) wk_X3 dX4_isSpelled_32 wf_X4_112 (by decide) (by decide) rfl rfl ?_
        refine J_aload_n (i := 0) (n := 36) dX4_isSpelled_35 rfl rfl rfl ?_
        refine T_get (k := 7) (n := 39) wk_X4 dX4_isSpelled_36 wf_X4_116 (by decide) (by decide) rfl rfl ?_
        rw [h7]
        refine J_iload_n (i := 2) (n := 40) dX4_isSpelled_39 rfl rfl rfl ?_
        refine J_iadd (n := 41) dX4_isSpelled_40 rfl ?_
        rw [nI_add]
        refine T_bald (n := 42) dX4_isSpelled_41 (by decide) (vp_in_nI (by omega) (by decide)) rfl ?_
        rw [nI_clamp (by omega), gs_neC (by decide), htp.1 (b + j) (by omega)]
        refine J_aload_n (i := 1) (n := 43) dX4_isSpelled_42 rfl rfl rfl ?_
        refine J_iload_n (i := 2) (n := 44) dX4_isSpelled_43 rfl rfl rfl ?_
        have hcs_44 := c_Str_charAt (G := G) (h := hp G (gs_set σ 4 0 v)) d hi (j := j) (by omega)
        refine J_callStr (kc := 0) (ks := 0) (n := 47) wS_J0_charAt_5068e hcs_44 hi dX4_isSpelled_44 wm_X4_143 ⟨wM_J0_charAt_5068e, wV_J0_charAt_5068e⟩ rfl rfl (Nat.le_of_ble_eq_true rfl) rfl ?_
        refine J_icmp_eq (tgt := 52) (n := 50) dX4_isSpelled_47 (by decide) rfl (fun c_47 => ?_) (fun c_47 => ?_)
        · rw [nI_eq (by omega) (by omega)] at c_47
          refine J_inc (i := 2) (n := 55) (lv' := [(0, _), (1, _), (2, _)]) dX4_isSpelled_52 rfl (by decide) rfl rfl ?_
          refine J_goto (tgt := 20) dX4_isSpelled_55 (by decide) ?_
          refine ih (j + 1) (by omega) (by omega) (fun q hq0 => ?_)
          by_cases eq : q = j
          · subst eq; exact c_47
          · exact hp0 q (by omega)
        · rw [nI_eq (by omega) (by omega)] at c_47
          refine J_iconst (n := 51) dX4_isSpelled_50 kI_0 rfl ?_
          refine J_iret dX4_isSpelled_51 rfl (by first | exact kN_0 | exact kN_1) ?_
          have hz : eqs t b (sc i) = false := by
            cases hc : eqs t b (sc i) with
            | false => rfl
            | true => exact absurd ((eqs_iff t (sc i) b).mp hc j (by rw [hsl]; omega)) c_47
          rw [hz, Bool.and_false] at hq
          exact hq
  refine gx_K.of' (lv := [(0, _), (1, _)]) (by decide) rfl (by decide) (Nat.le_of_ble_eq_true rfl) rfl ?_
  refine J_aload_n (i := 0) (n := 1) dX4_isSpelled_0 rfl rfl rfl ?_
  refine T_get (k := 2) (n := 4) wk_X4 dX4_isSpelled_1 wf_X4_28 (by decide) (by decide) rfl rfl ?_
  rw [h2]
  refine J_aload_n (i := 0) (n := 5) dX4_isSpelled_4 rfl rfl rfl ?_
  refine T_get (k := 7) (n := 8) wk_X4 dX4_isSpelled_5 wf_X4_116 (by decide) (by decide) rfl rfl ?_
  rw [h7]
  refine J_isub (n := 9) dX4_isSpelled_8 rfl ?_
  rw [pk_sub hbe]
  refine J_aload_n (i := 1) (n := 10) dX4_isSpelled_9 rfl rfl rfl ?_
  have hcs_10 := c_Str_length (G := G) (h := hp G (gs_set σ 4 0 v)) (d + 2) hi
  refine J_callStr (kc := 0) (ks := 0) (n := 13) wS_J0_length_8abf5 hcs_10 hi dX4_isSpelled_10 wm_X4_139 ⟨wM_J0_length_8abf5, wV_J0_length_8abf5⟩ rfl rfl (Nat.le_of_ble_eq_true rfl) rfl ?_
  refine J_icmp_eq (tgt := 18) (n := 16) dX4_isSpelled_13 (by decide) rfl (fun c_13 => ?_) (fun c_13 => ?_)
  · rw [nI_eq (by omega) (by omega)] at c_13
    refine J_iconst (n := 19) dX4_isSpelled_18 kI_0 rfl ?_
    refine J_istore_n (i := 2) (n := 20) (lv' := [(0, _), (1, _), (2, _)]) dX4_isSpelled_19 rfl (by decide) rfl rfl ?_
    exact loop c_13 7 0 (by omega) (by omega) (fun q hq0 => absurd hq0 (Nat.not_lt_zero _))
  · refine J_iconst (n := 17) dX4_isSpelled_16 kI_0 rfl ?_
    refine J_iret dX4_isSpelled_17 rfl (by first | exact kN_0 | exact kN_1) ?_
    rw [nI_eq (by omega) (by omega)] at c_13
    rw [decide_eq_false (by rw [hsl]; exact c_13), Bool.false_and] at hq
    exact hq

set_option maxHeartbeats 4000000 in
set_option maxRecDepth 100000 in
theorem c_T_spellingOf {G : gx_G} {h : gx_Hp} {Q : Option Value → gx_Hp → Prop} (d : Nat) {w : Nat} (hw : w < 7) (hq : Q (some (.ref (G.2.2.2.1 (tix w)))) h) : gx_K G yX4_spellingOf mX4_spellingOf d 0 0 [.int (nI w)] h Q := by
  refine gx_K.of' (lv := [(0, _)]) (by decide) rfl (by decide) (Nat.le_of_ble_eq_true rfl) rfl ?_
  refine J_iload_n (i := 0) (n := 1) dX4_spellingOf_0 rfl rfl rfl ?_
  by_cases e_1_0 : nI w = 0
  · rw [e_1_0]
    refine J_tableIn (off := 43) (tgt := 44) dX4_spellingOf_1 (by decide) (by decide) (by decide) (by decide) ?_
    refine J_ldcS (i := 0) (n := 46) dX4_spellingOf_44 (by decide) rfl rfl rfl ?_
    refine J_aret dX4_spellingOf_46 rfl (Or.inl ⟨_, rfl⟩) ?_
    first
    | (have ew : w = 0 := (nI_eq (by omega) (by decide)).mp e_1_0
       rw [ew] at hq
       exact hq)
    | (have ew : w = 1 := (nI_eq (by omega) (by decide)).mp e_1_1
       rw [ew] at hq
       exact hq)
    | (have ew : w = 2 := (nI_eq (by omega) (by decide)).mp e_1_2
       rw [ew] at hq
       exact hq)
    | (have ew : w = 3 := (nI_eq (by omega) (by decide)).mp e_1_3
       rw [ew] at hq
       exact hq)
    | (have ew : w = 4 := (nI_eq (by omega) (by decide)).mp e_1_4
       rw [ew] at hq
       exact hq)
    | (have ew : w = 5 := (nI_eq (by omega) (by decide)).mp e_1_5
       rw [ew] at hq
       exact hq)
    | (have ew : w = 6 := (nI_eq (by omega) (by decide)).mp e_1_6
       rw [ew] at hq
       exact hq)
    | (exfalso
       have q_0 : ¬ w = 0 := fun q => e_1_0 (by rw [q]; rfl)
       have q_1 : ¬ w = 1 := fun q => e_1_1 (by rw [q]; rfl)
       have q_2 : ¬ w = 2 := fun q => e_1_2 (by rw [q]; rfl)
       have q_3 : ¬ w = 3 := fun q => e_1_3 (by rw [q]; rfl)
       have q_4 : ¬ w = 4 := fun q => e_1_4 (by rw [q]; rfl)
       have q_5 : ¬ w = 5 := fun q => e_1_5 (by rw [q]; rfl)
       have q_6 : ¬ w = 6 := fun q => e_1_6 (by rw [q]; rfl)
       omega)
  by_cases e_1_1 : nI w = 1
  · rw [e_1_1]
    refine J_tableIn (off := 46) (tgt := 47) dX4_spellingOf_1 (by decide) (by decide) (by decide) (by decide) ?_
    refine J_ldcS (i := 1) (n := 49) dX4_spellingOf_47 (by decide) rfl rfl rfl ?_
    refine J_aret dX4_spellingOf_49 rfl (Or.inl ⟨_, rfl⟩) ?_
    first
    | (have ew : w = 0 := (nI_eq (by omega) (by decide)).mp e_1_0
       rw [ew] at hq
       exact hq)
    | (have ew : w = 1 := (nI_eq (by omega) (by decide)).mp e_1_1
       rw [ew] at hq
       exact hq)
    | (have ew : w = 2 := (nI_eq (by omega) (by decide)).mp e_1_2
       rw [ew] at hq
       exact hq)
    | (have ew : w = 3 := (nI_eq (by omega) (by decide)).mp e_1_3
       rw [ew] at hq
       exact hq)
    | (have ew : w = 4 := (nI_eq (by omega) (by decide)).mp e_1_4
       rw [ew] at hq
       exact hq)
    | (have ew : w = 5 := (nI_eq (by omega) (by decide)).mp e_1_5
       rw [ew] at hq
       exact hq)
    | (have ew : w = 6 := (nI_eq (by omega) (by decide)).mp e_1_6
       rw [ew] at hq
       exact hq)
    | (exfalso
       have q_0 : ¬ w = 0 := fun q => e_1_0 (by rw [q]; rfl)
       have q_1 : ¬ w = 1 := fun q => e_1_1 (by rw [q]; rfl)
       have q_2 : ¬ w = 2 := fun q => e_1_2 (by rw [q]; rfl)
       have q_3 : ¬ w = 3 := fun q => e_1_3 (by rw [q]; rfl)
       have q_4 : ¬ w = 4 := fun q => e_1_4 (by rw [q]; rfl)
       have q_5 : ¬ w = 5 := fun q => e_1_5 (by rw [q]; rfl)
       have q_6 : ¬ w = 6 := fun q => e_1_6 (by rw [q]; rfl)
       omega)
  by_cases e_1_2 : nI w = 2
  · rw [e_1_2]
    refine J_tableIn (off := 49) (tgt := 50) dX4_spellingOf_1 (by decide) (by decide) (by decide) (by decide) ?_
    refine J_ldcS (i := 2) (n := 52) dX4_spellingOf_50 (by decide) rfl rfl rfl ?_
    refine J_aret dX4_spellingOf_52 rfl (Or.inl ⟨_, rfl⟩) ?_
    first
    | (have ew : w = 0 := (nI_eq (by omega) (by decide)).mp e_1_0
       rw [ew] at hq
       exact hq)
    | (have ew : w = 1 := (nI_eq (by omega) (by decide)).mp e_1_1
       rw [ew] at hq
       exact hq)
    | (have ew : w = 2 := (nI_eq (by omega) (by decide)).mp e_1_2
       rw [ew] at hq
       exact hq)
    | (have ew : w = 3 := (nI_eq (by omega) (by decide)).mp e_1_3
       rw [ew] at hq
       exact hq)
    | (have ew : w = 4 := (nI_eq (by omega) (by decide)).mp e_1_4
       rw [ew] at hq
       exact hq)
    | (have ew : w = 5 := (nI_eq (by omega) (by decide)).mp e_1_5
       rw [ew] at hq
       exact hq)
    | (have ew : w = 6 := (nI_eq (by omega) (by decide)).mp e_1_6
       rw [ew] at hq
       exact hq)
    | (exfalso
       have q_0 : ¬ w = 0 := fun q => e_1_0 (by rw [q]; rfl)
       have q_1 : ¬ w = 1 := fun q => e_1_1 (by rw [q]; rfl)
       have q_2 : ¬ w = 2 := fun q => e_1_2 (by rw [q]; rfl)
       have q_3 : ¬ w = 3 := fun q => e_1_3 (by rw [q]; rfl)
       have q_4 : ¬ w = 4 := fun q => e_1_4 (by rw [q]; rfl)
       have q_5 : ¬ w = 5 := fun q => e_1_5 (by rw [q]; rfl)
       have q_6 : ¬ w = 6 := fun q => e_1_6 (by rw [q]; rfl)
       omega)
  by_cases e_1_3 : nI w = 3
  · rw [e_1_3]
    refine J_tableIn (off := 61) (tgt := 62) dX4_spellingOf_1 (by decide) (by decide) (by decide) (by decide) ?_
    refine J_ldcS (i := 6) (n := 64) dX4_spellingOf_62 (by decide) rfl rfl rfl ?_
    refine J_aret dX4_spellingOf_64 rfl (Or.inl ⟨_, rfl⟩) ?_
    first
    | (have ew : w = 0 := (nI_eq (by omega) (by decide)).mp e_1_0
       rw [ew] at hq
       exact hq)
    | (have ew : w = 1 := (nI_eq (by omega) (by decide)).mp e_1_1
       rw [ew] at hq
       exact hq)
    | (have ew : w = 2 := (nI_eq (by omega) (by decide)).mp e_1_2
       rw [ew] at hq
       exact hq)
    | (have ew : w = 3 := (nI_eq (by omega) (by decide)).mp e_1_3
       rw [ew] at hq
       exact hq)
    | (have ew : w = 4 := (nI_eq (by omega) (by decide)).mp e_1_4
       rw [ew] at hq
       exact hq)
    | (have ew : w = 5 := (nI_eq (by omega) (by decide)).mp e_1_5
       rw [ew] at hq
       exact hq)
    | (have ew : w = 6 := (nI_eq (by omega) (by decide)).mp e_1_6
       rw [ew] at hq
       exact hq)
    | (exfalso
       have q_0 : ¬ w = 0 := fun q => e_1_0 (by rw [q]; rfl)
       have q_1 : ¬ w = 1 := fun q => e_1_1 (by rw [q]; rfl)
       have q_2 : ¬ w = 2 := fun q => e_1_2 (by rw [q]; rfl)
       have q_3 : ¬ w = 3 := fun q => e_1_3 (by rw [q]; rfl)
       have q_4 : ¬ w = 4 := fun q => e_1_4 (by rw [q]; rfl)
       have q_5 : ¬ w = 5 := fun q => e_1_5 (by rw [q]; rfl)
       have q_6 : ¬ w = 6 := fun q => e_1_6 (by rw [q]; rfl)
       omega)
  by_cases e_1_4 : nI w = 4
  · rw [e_1_4]
    refine J_tableIn (off := 52) (tgt := 53) dX4_spellingOf_1 (by decide) (by decide) (by decide) (by decide) ?_
    refine J_ldcS (i := 3) (n := 55) dX4_spellingOf_53 (by decide) rfl rfl rfl ?_
    refine J_aret dX4_spellingOf_55 rfl (Or.inl ⟨_, rfl⟩) ?_
    first
    | (have ew : w = 0 := (nI_eq (by omega) (by decide)).mp e_1_0
       rw [ew] at hq
       exact hq)
    | (have ew : w = 1 := (nI_eq (by omega) (by decide)).mp e_1_1
       rw [ew] at hq
       exact hq)
    | (have ew : w = 2 := (nI_eq (by omega) (by decide)).mp e_1_2
       rw [ew] at hq
       exact hq)
    | (have ew : w = 3 := (nI_eq (by omega) (by decide)).mp e_1_3
       rw [ew] at hq
       exact hq)
    | (have ew : w = 4 := (nI_eq (by omega) (by decide)).mp e_1_4
       rw [ew] at hq
       exact hq)
    | (have ew : w = 5 := (nI_eq (by omega) (by decide)).mp e_1_5
       rw [ew] at hq
       exact hq)
    | (have ew : w = 6 := (nI_eq (by omega) (by decide)).mp e_1_6
       rw [ew] at hq
       exact hq)
    | (exfalso
       have q_0 : ¬ w = 0 := fun q => e_1_0 (by rw [q]; rfl)
       have q_1 : ¬ w = 1 := fun q => e_1_1 (by rw [q]; rfl)
       have q_2 : ¬ w = 2 := fun q => e_1_2 (by rw [q]; rfl)
       have q_3 : ¬ w = 3 := fun q => e_1_3 (by rw [q]; rfl)
       have q_4 : ¬ w = 4 := fun q => e_1_4 (by rw [q]; rfl)
       have q_5 : ¬ w = 5 := fun q => e_1_5 (by rw [q]; rfl)
       have q_6 : ¬ w = 6 := fun q => e_1_6 (by rw [q]; rfl)
       omega)
  by_cases e_1_5 : nI w = 5
  · rw [e_1_5]
    refine J_tableIn (off := 55) (tgt := 56) dX4_spellingOf_1 (by decide) (by decide) (by decide) (by decide) ?_
    refine J_ldcS (i := 4) (n := 58) dX4_spellingOf_56 (by decide) rfl rfl rfl ?_
    refine J_aret dX4_spellingOf_58 rfl (Or.inl ⟨_, rfl⟩) ?_
    first
    | (have ew : w = 0 := (nI_eq (by omega) (by decide)).mp e_1_0
       rw [ew] at hq
       exact hq)
    | (have ew : w = 1 := (nI_eq (by omega) (by decide)).mp e_1_1
       rw [ew] at hq
       exact hq)
    | (have ew : w = 2 := (nI_eq (by omega) (by decide)).mp e_1_2
       rw [ew] at hq
       exact hq)
    | (have ew : w = 3 := (nI_eq (by omega) (by decide)).mp e_1_3
       rw [ew] at hq
       exact hq)
    | (have ew : w = 4 := (nI_eq (by omega) (by decide)).mp e_1_4
       rw [ew] at hq
       exact hq)
    | (have ew : w = 5 := (nI_eq (by omega) (by decide)).mp e_1_5
       rw [ew] at hq
       exact hq)
    | (have ew : w = 6 := (nI_eq (by omega) (by decide)).mp e_1_6
       rw [ew] at hq
       exact hq)
    | (exfalso
       have q_0 : ¬ w = 0 := fun q => e_1_0 (by rw [q]; rfl)
       have q_1 : ¬ w = 1 := fun q => e_1_1 (by rw [q]; rfl)
       have q_2 : ¬ w = 2 := fun q => e_1_2 (by rw [q]; rfl)
       have q_3 : ¬ w = 3 := fun q => e_1_3 (by rw [q]; rfl)
       have q_4 : ¬ w = 4 := fun q => e_1_4 (by rw [q]; rfl)
       have q_5 : ¬ w = 5 := fun q => e_1_5 (by rw [q]; rfl)
       have q_6 : ¬ w = 6 := fun q => e_1_6 (by rw [q]; rfl)
       omega)
  by_cases e_1_6 : nI w = 6
  · rw [e_1_6]
    refine J_tableIn (off := 58) (tgt := 59) dX4_spellingOf_1 (by decide) (by decide) (by decide) (by decide) ?_
    refine J_ldcS (i := 5) (n := 61) dX4_spellingOf_59 (by decide) rfl rfl rfl ?_
    refine J_aret dX4_spellingOf_61 rfl (Or.inl ⟨_, rfl⟩) ?_
    first
    | (have ew : w = 0 := (nI_eq (by omega) (by decide)).mp e_1_0
       rw [ew] at hq
       exact hq)
    | (have ew : w = 1 := (nI_eq (by omega) (by decide)).mp e_1_1
       rw [ew] at hq
       exact hq)
    | (have ew : w = 2 := (nI_eq (by omega) (by decide)).mp e_1_2
       rw [ew] at hq
       exact hq)
    | (have ew : w = 3 := (nI_eq (by omega) (by decide)).mp e_1_3
       rw [ew] at hq
       exact hq)
    | (have ew : w = 4 := (nI_eq (by omega) (by decide)).mp e_1_4
       rw [ew] at hq
       exact hq)
    | (have ew : w = 5 := (nI_eq (by omega) (by decide)).mp e_1_5
       rw [ew] at hq
       exact hq)
    | (have ew : w = 6 := (nI_eq (by omega) (by decide)).mp e_1_6
       rw [ew] at hq
       exact hq)
    | (exfalso
       have q_0 : ¬ w = 0 := fun q => e_1_0 (by rw [q]; rfl)
       have q_1 : ¬ w = 1 := fun q => e_1_1 (by rw [q]; rfl)
       have q_2 : ¬ w = 2 := fun q => e_1_2 (by rw [q]; rfl)
       have q_3 : ¬ w = 3 := fun q => e_1_3 (by rw [q]; rfl)
       have q_4 : ¬ w = 4 := fun q => e_1_4 (by rw [q]; rfl)
       have q_5 : ¬ w = 5 := fun q => e_1_5 (by rw [q]; rfl)
       have q_6 : ¬ w = 6 := fun q => e_1_6 (by rw [q]; rfl)
       omega)
  refine J_tableOut (tgt := 62) dX4_spellingOf_1 (by have q_0 := lv_neT (a := 0) e_1_0 rfl; have q_1 := lv_neT (a := 1) e_1_1 rfl; have q_2 := lv_neT (a := 2) e_1_2 rfl; have q_3 := lv_neT (a := 3) e_1_3 rfl; have q_4 := lv_neT (a := 4) e_1_4 rfl; have q_5 := lv_neT (a := 5) e_1_5 rfl; have q_6 := lv_neT (a := 6) e_1_6 rfl; omega) (by decide) ?_
  refine J_ldcS (i := 6) (n := 64) dX4_spellingOf_62 (by decide) rfl rfl rfl ?_
  refine J_aret dX4_spellingOf_64 rfl (Or.inl ⟨_, rfl⟩) ?_
  first
  | (have ew : w = 0 := (nI_eq (by omega) (by decide)).mp e_1_0
     rw [ew] at hq
     exact hq)
  | (have ew : w = 1 := (nI_eq (by omega) (by decide)).mp e_1_1
     rw [ew] at hq
     exact hq)
  | (have ew : w = 2 := (nI_eq (by omega) (by decide)).mp e_1_2
     rw [ew] at hq
     exact hq)
  | (have ew : w = 3 := (nI_eq (by omega) (by decide)).mp e_1_3
     rw [ew] at hq
     exact hq)
  | (have ew : w = 4 := (nI_eq (by omega) (by decide)).mp e_1_4
     rw [ew] at hq
     exact hq)
  | (have ew : w = 5 := (nI_eq (by omega) (by decide)).mp e_1_5
     rw [ew] at hq
     exact hq)
  | (have ew : w = 6 := (nI_eq (by omega) (by decide)).mp e_1_6
     rw [ew] at hq
     exact hq)
  | (exfalso
     have q_0 : ¬ w = 0 := fun q => e_1_0 (by rw [q]; rfl)
     have q_1 : ¬ w = 1 := fun q => e_1_1 (by rw [q]; rfl)
     have q_2 : ¬ w = 2 := fun q => e_1_2 (by rw [q]; rfl)
     have q_3 : ¬ w = 3 := fun q => e_1_3 (by rw [q]; rfl)
     have q_4 : ¬ w = 4 := fun q => e_1_4 (by rw [q]; rfl)
     have q_5 : ¬ w = 5 := fun q => e_1_5 (by rw [q]; rfl)
     have q_6 : ¬ w = 6 := fun q => e_1_6 (by rw [q]; rfl)
     omega)

set_option maxHeartbeats 4000000 in
set_option maxRecDepth 100000 in
theorem c_T_wordRead {G : gx_G} {σ : gs_S} {Q : Option Value → gx_Hp → Prop} {v : gs_Ob} (d : Nat) {t : Nat → Nat} {L : Nat} (ht : tOk t L) (htp : ctp σ t L) {b e : Nat} (hbe : b ≤ e) (heL : e ≤ L) (h2 : v.2.1 2 = nI e) (h7 : v.2.1 7 = nI b) (hq : Q (some (.int (nI (wd t b e)))) (hp G (gs_set σ 4 0 v))) : gx_K G yX4_wordRead mX4_wordRead (d + 5) 0 0 [.ref (gs_a G 4 0 0)] (hp G (gs_set σ 4 0 v)) Q := by
  have loop : ∀ m w, m + w = 7 → wd t b e = wdf t b e m w → gx_J G mX4_wordRead (d + 5) 0 0 Q 2 [(0, .ref (gs_a G 4 0 0)), (1, .int (nI w))] [] (hp G (gs_set σ 4 0 v)) := by
    intro m
    induction m with
    | zero =>
      intro w hmw hwd
      have ew : w = 7 := by omega
      subst ew
      refine J_iload_n (i := 1) (n := 3) dX4_wordRead_2 rfl rfl rfl ?_
      refine J_bipush (n := 5) dX4_wordRead_3 kB_7 rfl ?_
      refine J_icmp_ge (tgt := 27) (n := 8) dX4_wordRead_5 (by decide) rfl (fun c_5 => ?_) (fun c_5 => ?_)
      · refine J_bipush (n := 29) dX4_wordRead_27 kB_7 rfl ?_
        refine J_iret dX4_wordRead_29 rfl (kN_i _) ?_
        rw [show wd t b e = 7 from hwd] at hq
        exact hq
      · exact absurd (nI_le (by decide) (by decide)) c_5
    | succ m ih =>
      intro w hmw hwd
      obtain ⟨htx, hsw⟩ := tix_all w (by omega)
      have hwd : wd t b e = if spl t b e w = true then w else wdf t b e m (w + 1) := hwd
      refine J_iload_n (i := 1) (n := 3) dX4_wordRead_2 rfl rfl rfl ?_
      refine J_bipush (n := 5) dX4_wordRead_3 kB_7 rfl ?_
      refine J_icmp_ge (tgt := 27) (n := 8) dX4_wordRead_5 (by decide) rfl (fun c_5 => ?_) (fun c_5 => ?_)
      · exfalso
        rw [nI_leI (by omega) (by omega)] at c_5
        omega
      · 
        refine J_aload_n (i := 0) (n := 9) dX4_wordRead_8 rfl rfl rfl ?_
        refine J_iload_n (i := 1) (n := 10) dX4_wordRead_9 rfl rfl rfl ?_
        refine J_callSr (n := 13) wS_X4_spellingOf (c_T_spellingOf (d + 4) (w := w) (by omega) ⟨rfl, rfl⟩) dX4_wordRead_10 wm_X4_131 wT_X4_spellingOf rfl rfl (Nat.le_of_ble_eq_true rfl) rfl ?_
        refine J_callVr (n := 16) wS_X4_isSpelled (c_T_isSpelled d ht htp (i := tix w) htx hbe heL h2 h7 ⟨rfl, rfl⟩) dX4_wordRead_13 wm_X4_135 ⟨wM_X4_isSpelled, wV_X4_isSpelled⟩ rfl (T_recv (by decide) (by decide)) rfl rfl (Nat.le_of_ble_eq_true rfl) rfl ?_
        refine J_if_eq (tgt := 21) (n := 19) dX4_wordRead_16 (by decide) rfl (fun c_16 => ?_) (fun c_16 => ?_)
        · rw [hsw] at c_16
          rw [if_neg (by rw [show spl t b e w = false from (nb_0 _).mp c_16]; decide)] at hwd
          refine J_inc (i := 1) (n := 24) (lv' := [(0, _), (1, _)]) dX4_wordRead_21 rfl (by decide) rfl rfl ?_
          refine J_goto (tgt := 2) dX4_wordRead_24 (by decide) ?_
          exact ih (w + 1) (by omega) hwd
        · rw [hsw] at c_16
          rw [if_pos (show spl t b e w = true from (nb_t _).mp c_16)] at hwd
          refine J_iload_n (i := 1) (n := 20) dX4_wordRead_19 rfl rfl rfl ?_
          refine J_iret dX4_wordRead_20 rfl (kN_i _) ?_
          rw [hwd] at hq
          exact hq
  refine gx_K.of' (lv := [(0, _)]) (by decide) rfl (by decide) (Nat.le_of_ble_eq_true rfl) rfl ?_
  refine J_iconst (n := 1) dX4_wordRead_0 kI_0 rfl ?_
  refine J_istore_n (i := 1) (n := 2) (lv' := [(0, _), (1, _)]) dX4_wordRead_1 rfl (by decide) rfl rfl ?_
  exact loop 7 0 rfl rfl

