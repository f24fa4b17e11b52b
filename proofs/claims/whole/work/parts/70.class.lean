/-! ===== class: the text ===== -/
def ctp (σ : gs_S) (t : Nat → Nat) (L : Nat) : Prop := (∀ q, q < L → (σ 3 0).1 0 q = nI (t q)) ∧ (σ 3 0).2.1 1 = nI L
def cflt (v : gs_Ob) (e : pE) : Prop := v.2.1 8 = nI e.1 ∧ v.2.1 7 = nI e.2
def ctk (v : gs_Ob) (t : Nat → Nat) (L i : Nat) : Prop := v.2.1 7 = nI (tb t L i) ∧ v.2.1 2 = nI (tk t L i).2.1 ∧ v.2.1 3 = nI (tk t L i).1 ∧ ((tk t L i).1 = 2 → v.2.1 4 = nI (tk t L i).2.2)
def nd (t : Nat → Nat) (b : Nat) : Nat → Int32
  | 0 => nI 0
  | m + 1 => nd t b m * nI 10 + nI (t (b + m)) - nI 48
theorem nd_2 {t : Nat → Nat} {b m : Nat} (h : ∀ q, q < m → isF (t (b + q)) = true) (hm : m ≤ 2) : nd t b m = nI (nv t b m) := by
  have h1 : ∀ q, q < m → 48 ≤ t (b + q) := fun q hq => by
    have := h q hq
    unfold isF at this
    rw [Bool.and_eq_true, decide_eq_true_eq] at this
    exact this.1
  rcases (show m = 0 ∨ m = 1 ∨ m = 2 by omega) with rfl | rfl | rfl
  · rfl
  · have h2 := h1 0 (by decide)
    show nI 0 * nI 10 + nI (t (b + 0)) - nI 48 = nI (10 * 0 + (t (b + 0) - 48))
    rw [pk_mul, nI_add, pk_sub (by omega)]
    congr 1
    omega
  · have h2 := h1 0 (by decide)
    have h3 := h1 1 (by decide)
    show (nI 0 * nI 10 + nI (t (b + 0)) - nI 48) * nI 10 + nI (t (b + 1)) - nI 48 = nI (10 * (10 * 0 + (t (b + 0) - 48)) + (t (b + 1) - 48))
    rw [pk_mul, nI_add, pk_sub (by omega), pk_mul, nI_add, pk_sub (by omega)]
    congr 1
    omega
set_option maxHeartbeats 4000000 in
set_option maxRecDepth 100000 in
theorem c_T_isLetter {G : gx_G} {h : gx_Hp} {Q : Option Value → gx_Hp → Prop} (d : Nat) {c : Nat} (hc : c < 2 ^ 30) (hq : Q (some (.int (nI (isL c).toNat))) h) : gx_K G yX4_isLetter mX4_isLetter d 0 0 [.int (nI c)] h Q := by
  unfold isL at hq
  refine gx_K.of' (lv := [(0, _)]) (by decide) rfl (by decide) (Nat.le_of_ble_eq_true rfl) rfl ?_
  refine J_iload_n (i := 0) (n := 1) dX4_isLetter_0 rfl rfl rfl ?_
  refine J_bipush (n := 3) dX4_isLetter_1 kB_97 rfl ?_
  refine J_icmp_lt (tgt := 16) (n := 6) dX4_isLetter_3 (by decide) rfl (fun c_3 => ?_) (fun c_3 => ?_)
  · refine J_iconst (n := 17) dX4_isLetter_16 kI_0 rfl ?_
    refine J_iret dX4_isLetter_17 rfl (by first | exact kN_0 | exact kN_1) ?_
    rw [nI_ltI (by omega) (by decide)] at c_3
    try rw [nI_ltI (by decide) (by omega)] at c_9
    first
    | (rw [decide_eq_false (show ¬ 97 ≤ c by omega), Bool.false_and] at hq; exact hq)
    | (rw [decide_eq_false (show ¬ c ≤ 122 by omega), Bool.and_false] at hq; exact hq)
    | (rw [decide_eq_true (show 97 ≤ c by omega), decide_eq_true (show c ≤ 122 by omega)] at hq; exact hq)
  · refine J_iload_n (i := 0) (n := 7) dX4_isLetter_6 rfl rfl rfl ?_
    refine J_bipush (n := 9) dX4_isLetter_7 kB_122 rfl ?_
    refine J_icmp_gt (tgt := 16) (n := 12) dX4_isLetter_9 (by decide) rfl (fun c_9 => ?_) (fun c_9 => ?_)
    · refine J_iconst (n := 17) dX4_isLetter_16 kI_0 rfl ?_
      refine J_iret dX4_isLetter_17 rfl (by first | exact kN_0 | exact kN_1) ?_
      rw [nI_ltI (by omega) (by decide)] at c_3
      try rw [nI_ltI (by decide) (by omega)] at c_9
      first
      | (rw [decide_eq_false (show ¬ 97 ≤ c by omega), Bool.false_and] at hq; exact hq)
      | (rw [decide_eq_false (show ¬ c ≤ 122 by omega), Bool.and_false] at hq; exact hq)
      | (rw [decide_eq_true (show 97 ≤ c by omega), decide_eq_true (show c ≤ 122 by omega)] at hq; exact hq)
    · refine J_iconst (n := 13) dX4_isLetter_12 kI_1 rfl ?_
      refine J_goto (tgt := 17) dX4_isLetter_13 (by decide) ?_
      refine J_iret dX4_isLetter_17 rfl (by first | exact kN_0 | exact kN_1) ?_
      rw [nI_ltI (by omega) (by decide)] at c_3
      try rw [nI_ltI (by decide) (by omega)] at c_9
      first
      | (rw [decide_eq_false (show ¬ 97 ≤ c by omega), Bool.false_and] at hq; exact hq)
      | (rw [decide_eq_false (show ¬ c ≤ 122 by omega), Bool.and_false] at hq; exact hq)
      | (rw [decide_eq_true (show 97 ≤ c by omega), decide_eq_true (show c ≤ 122 by omega)] at hq; exact hq)

set_option maxHeartbeats 4000000 in
set_option maxRecDepth 100000 in
theorem c_T_isFigure {G : gx_G} {h : gx_Hp} {Q : Option Value → gx_Hp → Prop} (d : Nat) {c : Nat} (hc : c < 2 ^ 30) (hq : Q (some (.int (nI (isF c).toNat))) h) : gx_K G yX4_isFigure mX4_isFigure d 0 0 [.int (nI c)] h Q := by
  unfold isF at hq
  refine gx_K.of' (lv := [(0, _)]) (by decide) rfl (by decide) (Nat.le_of_ble_eq_true rfl) rfl ?_
  refine J_iload_n (i := 0) (n := 1) dX4_isFigure_0 rfl rfl rfl ?_
  refine J_bipush (n := 3) dX4_isFigure_1 kB_48 rfl ?_
  refine J_icmp_lt (tgt := 16) (n := 6) dX4_isFigure_3 (by decide) rfl (fun c_3 => ?_) (fun c_3 => ?_)
  · refine J_iconst (n := 17) dX4_isFigure_16 kI_0 rfl ?_
    refine J_iret dX4_isFigure_17 rfl (by first | exact kN_0 | exact kN_1) ?_
    rw [nI_ltI (by omega) (by decide)] at c_3
    try rw [nI_ltI (by decide) (by omega)] at c_9
    first
    | (rw [decide_eq_false (show ¬ 48 ≤ c by omega), Bool.false_and] at hq; exact hq)
    | (rw [decide_eq_false (show ¬ c ≤ 57 by omega), Bool.and_false] at hq; exact hq)
    | (rw [decide_eq_true (show 48 ≤ c by omega), decide_eq_true (show c ≤ 57 by omega)] at hq; exact hq)
  · refine J_iload_n (i := 0) (n := 7) dX4_isFigure_6 rfl rfl rfl ?_
    refine J_bipush (n := 9) dX4_isFigure_7 kB_57 rfl ?_
    refine J_icmp_gt (tgt := 16) (n := 12) dX4_isFigure_9 (by decide) rfl (fun c_9 => ?_) (fun c_9 => ?_)
    · refine J_iconst (n := 17) dX4_isFigure_16 kI_0 rfl ?_
      refine J_iret dX4_isFigure_17 rfl (by first | exact kN_0 | exact kN_1) ?_
      rw [nI_ltI (by omega) (by decide)] at c_3
      try rw [nI_ltI (by decide) (by omega)] at c_9
      first
      | (rw [decide_eq_false (show ¬ 48 ≤ c by omega), Bool.false_and] at hq; exact hq)
      | (rw [decide_eq_false (show ¬ c ≤ 57 by omega), Bool.and_false] at hq; exact hq)
      | (rw [decide_eq_true (show 48 ≤ c by omega), decide_eq_true (show c ≤ 57 by omega)] at hq; exact hq)
    · refine J_iconst (n := 13) dX4_isFigure_12 kI_1 rfl ?_
      refine J_goto (tgt := 17) dX4_isFigure_13 (by decide) ?_
      refine J_iret dX4_isFigure_17 rfl (by first | exact kN_0 | exact kN_1) ?_
      rw [nI_ltI (by omega) (by decide)] at c_3
      try rw [nI_ltI (by decide) (by omega)] at c_9
      first
      | (rw [decide_eq_false (show ¬ 48 ≤ c by omega), Bool.false_and] at hq; exact hq)
      | (rw [decide_eq_false (show ¬ c ≤ 57 by omega), Bool.and_false] at hq; exact hq)
      | (rw [decide_eq_true (show 48 ≤ c by omega), decide_eq_true (show c ≤ 57 by omega)] at hq; exact hq)

set_option maxHeartbeats 4000000 in
set_option maxRecDepth 100000 in
theorem c_T_refuses {G : gx_G} {σ : gs_S} {Q : Option Value → gx_Hp → Prop} {v : gs_Ob} (d : Nat) (c : Int32) (hq : Q (some (.int (nI 0))) (hp G (gs_set σ 4 0 (gs_f v 8 c)))) : gx_K G yX4_refuses mX4_refuses d 0 0 [.ref (gs_a G 4 0 0), .int c] (hp G (gs_set σ 4 0 v)) Q := by
  refine gx_K.of' (lv := [(0, _), (1, _)]) (by decide) rfl (by decide) (Nat.le_of_ble_eq_true rfl) rfl ?_
  refine J_aload_n (i := 0) (n := 1) dX4_refuses_0 rfl rfl rfl ?_
  refine J_iload_n (i := 1) (n := 2) dX4_refuses_1 rfl rfl rfl ?_
  refine T_putI (k := 8) (n := 5) wk_X4 dX4_refuses_2 wf_X4_35 (by decide) (by decide) (kN_i _) rfl (Nat.le_of_ble_eq_true rfl) rfl rfl ?_
  refine J_iconst (n := 6) dX4_refuses_5 kI_0 rfl ?_
  refine J_iret dX4_refuses_6 rfl (by first | exact kN_0 | exact kN_1) ?_
  exact hq

set_option maxHeartbeats 4000000 in
set_option maxRecDepth 100000 in
theorem j_rw_5 {G : gx_G} {σ : gs_S} {Q : Option Value → gx_Hp → Prop} {v : gs_Ob} (d : Nat) {t : Nat → Nat} {L : Nat} (ht : tOk t L) (htp : ctp σ t L) {b : Nat} (hq : ∀ v1, mA v v1 [2] → v1.2.1 2 = nI (tn isL t L b) → Q (some (.int (nI 1))) (hp G (gs_set σ 4 0 v1))) : ∀ u p v1, L - p < u → p ≤ L → mA v v1 [2] → v1.2.1 2 = nI p → tn isL t L b = tn isL t L p → gx_J G mX4_readsWord (d + 1) 0 0 Q 5 [(0, .ref (gs_a G 4 0 0))] [] (hp G (gs_set σ 4 0 v1)) := by
  have hL := ht.1
  intro u
  induction u with
  | zero => intros; exact absurd (by assumption) (Nat.not_lt_zero _)
  | succ u ihu =>
    intro p v1 hu hp0 hA h2 htb
    refine J_aload_n (i := 0) (n := 6) dX4_readsWord_5 rfl rfl rfl ?_
    refine T_get (k := 2) (n := 9) wk_X4 dX4_readsWord_6 wf_X4_28 (by decide) (by decide) rfl rfl ?_
    rw [h2]
    refine J_aload_n (i := 0) (n := 10) dX4_readsWord_9 rfl rfl rfl ?_
    refine T_get (k := 0) (n := 13) wk_X4 dX4_readsWord_10 wf_X4_12 (by decide) (by decide) rfl rfl ?_
    refine T_getO (k := 1) (n := 16) wk_X3 dX4_readsWord_13 wf_X4_109 (by decide) (by decide) rfl rfl ?_
    rw [gs_neC (by decide), htp.2]
    refine J_icmp_ge (tgt := 50) (n := 19) dX4_readsWord_16 (by decide) rfl (fun c_16 => ?_) (fun c_16 => ?_)
    · refine J_iconst (n := 51) dX4_readsWord_50 kI_1 rfl ?_
      refine J_iret dX4_readsWord_51 rfl (by first | exact kN_0 | exact kN_1) ?_
      refine hq v1 hA ?_
      rw [h2, htb, tn_f (by
        first
        | (rw [nI_leI (by omega) (by omega)] at c_16; left; omega)
        | (right; exact (nb_0 _).mp c_34))]
    · rw [nI_leI (by omega) (by omega)] at c_16
      refine J_aload_n (i := 0) (n := 20) dX4_readsWord_19 rfl rfl rfl ?_
      refine T_get (k := 0) (n := 23) wk_X4 dX4_readsWord_20 wf_X4_12 (by decide) (by decide) rfl rfl ?_
      refine T_getO (k := 0) (n := 26) wk_X3 dX4_readsWord_23 wf_X4_112 (by decide) (by decide) rfl rfl ?_
      refine J_aload_n (i := 0) (n := 27) dX4_readsWord_26 rfl rfl rfl ?_
      refine T_get (k := 2) (n := 30) wk_X4 dX4_readsWord_27 wf_X4_28 (by decide) (by decide) rfl rfl ?_
      rw [h2]
      refine T_bald (n := 31) dX4_readsWord_30 (by decide) (vp_in_nI (by omega) (by decide)) rfl ?_
      rw [nI_clamp (by omega), gs_neC (by decide), htp.1 p (by omega)]
      refine J_callSr (n := 34) wS_X4_isLetter (c_T_isLetter d (c := t p) (by have := ht.2 p (by omega); omega) ⟨rfl, rfl⟩) dX4_readsWord_31 wm_X4_119 wT_X4_isLetter rfl rfl (Nat.le_of_ble_eq_true rfl) rfl ?_
      refine J_if_eq (tgt := 50) (n := 37) dX4_readsWord_34 (by decide) rfl (fun c_34 => ?_) (fun c_34 => ?_)
      · refine J_iconst (n := 51) dX4_readsWord_50 kI_1 rfl ?_
        refine J_iret dX4_readsWord_51 rfl (by first | exact kN_0 | exact kN_1) ?_
        refine hq v1 hA ?_
        rw [h2, htb, tn_f (by
          first
          | (rw [nI_leI (by omega) (by omega)] at c_16; left; omega)
          | (right; exact (nb_0 _).mp c_34))]
      · refine J_aload_n (i := 0) (n := 38) dX4_readsWord_37 rfl rfl rfl ?_
        refine J_dup (n := 39) dX4_readsWord_38 rfl rfl ?_
        refine T_get (k := 2) (n := 42) wk_X4 dX4_readsWord_39 wf_X4_28 (by decide) (by decide) rfl rfl ?_
        rw [h2]
        refine J_iconst (n := 43) dX4_readsWord_42 kI_1 rfl ?_
        refine J_iadd (n := 44) dX4_readsWord_43 rfl ?_
        rw [nI_add]
        refine T_putI (k := 2) (n := 47) wk_X4 dX4_readsWord_44 wf_X4_28 (by decide) (by decide) (kN_i _) rfl (Nat.le_of_ble_eq_true rfl) rfl rfl ?_
        refine J_goto (tgt := 5) dX4_readsWord_47 (by decide) ?_
        exact ihu (p + 1) _ (by omega) (by omega) (hA.f _ (by decide)) (gsf_s _ _ _) (by rw [htb]; exact tn_t (by omega) ((nb_t _).mp c_34))
set_option maxHeartbeats 4000000 in
set_option maxRecDepth 100000 in
theorem c_T_readsWord {G : gx_G} {σ : gs_S} {Q : Option Value → gx_Hp → Prop} {v : gs_Ob} (d : Nat) {t : Nat → Nat} {L : Nat} (ht : tOk t L) (htp : ctp σ t L) {b : Nat} (hb : b ≤ L) (h2 : v.2.1 2 = nI b) (hq : ∀ v1, mA v v1 [2, 3] → v1.2.1 3 = nI 1 → v1.2.1 2 = nI (tn isL t L b) → Q (some (.int (nI 1))) (hp G (gs_set σ 4 0 v1))) : gx_K G yX4_readsWord mX4_readsWord (d + 1) 0 0 [.ref (gs_a G 4 0 0)] (hp G (gs_set σ 4 0 v)) Q := by
  refine gx_K.of' (lv := [(0, _)]) (by decide) rfl (by decide) (Nat.le_of_ble_eq_true rfl) rfl ?_
  refine J_aload_n (i := 0) (n := 1) dX4_readsWord_0 rfl rfl rfl ?_
  refine J_iconst (n := 2) dX4_readsWord_1 kI_1 rfl ?_
  refine T_putI (k := 3) (n := 5) wk_X4 dX4_readsWord_2 wf_X4_45 (by decide) (by decide) (kN_i _) rfl (Nat.le_of_ble_eq_true rfl) rfl rfl ?_
  exact j_rw_5 (v := gs_f v 3 (nI 1)) d ht htp (b := b) (fun v1 hA h2 => hq v1 (((mA.rf _ _).f _ (by decide)).tr (hA.sub (by decide))) (by rw [hA.2 3 (by decide)]; exact gsf_s _ _ _) h2) (L + 1) b _ (by omega) hb (mA.rf _ _) (by rw [gsf_n _ _ (by decide)]; exact h2) rfl

set_option maxHeartbeats 4000000 in
set_option maxRecDepth 100000 in
theorem j_rn_10 {G : gx_G} {σ : gs_S} {Q : Option Value → gx_Hp → Prop} {v : gs_Ob} (d : Nat) {t : Nat → Nat} {L : Nat} (ht : tOk t L) (htp : ctp σ t L) {b : Nat} (k82 : ∀ v1, mA v v1 [2, 4] → v1.2.1 2 = nI (tn isF t L b) → v1.2.1 4 = nd t b (tn isF t L b - b) → (∀ q, q < tn isF t L b - b → isF (t (b + q)) = true) → gx_J G mX4_readsNumber (d + 2) 0 0 Q 82 [(0, .ref (gs_a G 4 0 0))] [] (hp G (gs_set σ 4 0 v1))) : ∀ u p v1, L - p < u → p ≤ L → b ≤ p → (∀ q, b ≤ q → q < p → isF (t q) = true) → mA v v1 [2, 4] → v1.2.1 2 = nI p → v1.2.1 4 = nd t b (p - b) → tn isF t L b = tn isF t L p → gx_J G mX4_readsNumber (d + 2) 0 0 Q 10 [(0, .ref (gs_a G 4 0 0))] [] (hp G (gs_set σ 4 0 v1)) := by
  have hL := ht.1
  intro u
  induction u with
  | zero => intros; exact absurd (by assumption) (Nat.not_lt_zero _)
  | succ u ihu =>
    intro p v1 hu hp0 hbp hfq hA h2 h4 htb
    refine J_aload_n (i := 0) (n := 11) dX4_readsNumber_10 rfl rfl rfl ?_
    refine T_get (k := 2) (n := 14) wk_X4 dX4_readsNumber_11 wf_X4_28 (by decide) (by decide) rfl rfl ?_
    rw [h2]
    refine J_aload_n (i := 0) (n := 15) dX4_readsNumber_14 rfl rfl rfl ?_
    refine T_get (k := 0) (n := 18) wk_X4 dX4_readsNumber_15 wf_X4_12 (by decide) (by decide) rfl rfl ?_
    refine T_getO (k := 1) (n := 21) wk_X3 dX4_readsNumber_18 wf_X4_109 (by decide) (by decide) rfl rfl ?_
    rw [gs_neC (by decide), htp.2]
    refine J_icmp_ge (tgt := 82) (n := 24) dX4_readsNumber_21 (by decide) rfl (fun c_21 => ?_) (fun c_21 => ?_)
    · have hz : tn isF t L p = p := tn_f (by
        first
        | (rw [nI_leI (by omega) (by omega)] at c_21; left; omega)
        | (right; exact (nb_0 _).mp c_39))
      have hend : tn isF t L b = p := by rw [htb, hz]
      exact k82 v1 hA (by rw [hend]; exact h2) (by rw [hend]; exact h4) (fun q hq0 => hfq _ (by omega) (by rw [hend] at hq0; omega))
    · rw [nI_leI (by omega) (by omega)] at c_21
      refine J_aload_n (i := 0) (n := 25) dX4_readsNumber_24 rfl rfl rfl ?_
      refine T_get (k := 0) (n := 28) wk_X4 dX4_readsNumber_25 wf_X4_12 (by decide) (by decide) rfl rfl ?_
      refine T_getO (k := 0) (n := 31) wk_X3 dX4_readsNumber_28 wf_X4_112 (by decide) (by decide) rfl rfl ?_
      refine J_aload_n (i := 0) (n := 32) dX4_readsNumber_31 rfl rfl rfl ?_
      refine T_get (k := 2) (n := 35) wk_X4 dX4_readsNumber_32 wf_X4_28 (by decide) (by decide) rfl rfl ?_
      rw [h2]
      refine T_bald (n := 36) dX4_readsNumber_35 (by decide) (vp_in_nI (by omega) (by decide)) rfl ?_
      rw [nI_clamp (by omega), gs_neC (by decide), htp.1 p (by omega)]
      refine J_callSr (n := 39) wS_X4_isFigure (c_T_isFigure (d + 1) (c := t p) (by have := ht.2 p (by omega); omega) ⟨rfl, rfl⟩) dX4_readsNumber_36 wm_X4_125 wT_X4_isFigure rfl rfl (Nat.le_of_ble_eq_true rfl) rfl ?_
      refine J_if_eq (tgt := 82) (n := 42) dX4_readsNumber_39 (by decide) rfl (fun c_39 => ?_) (fun c_39 => ?_)
      · have hz : tn isF t L p = p := tn_f (by
          first
          | (rw [nI_leI (by omega) (by omega)] at c_21; left; omega)
          | (right; exact (nb_0 _).mp c_39))
        have hend : tn isF t L b = p := by rw [htb, hz]
        exact k82 v1 hA (by rw [hend]; exact h2) (by rw [hend]; exact h4) (fun q hq0 => hfq _ (by omega) (by rw [hend] at hq0; omega))
      · refine J_aload_n (i := 0) (n := 43) dX4_readsNumber_42 rfl rfl rfl ?_
        refine J_aload_n (i := 0) (n := 44) dX4_readsNumber_43 rfl rfl rfl ?_
        refine T_get (k := 4) (n := 47) wk_X4 dX4_readsNumber_44 wf_X4_88 (by decide) (by decide) rfl rfl ?_
        rw [h4]
        refine J_bipush (n := 49) dX4_readsNumber_47 kB_10 rfl ?_
        refine J_imul (n := 50) dX4_readsNumber_49 rfl ?_
        refine J_aload_n (i := 0) (n := 51) dX4_readsNumber_50 rfl rfl rfl ?_
        refine T_get (k := 0) (n := 54) wk_X4 dX4_readsNumber_51 wf_X4_12 (by decide) (by decide) rfl rfl ?_
        refine T_getO (k := 0) (n := 57) wk_X3 dX4_readsNumber_54 wf_X4_112 (by decide) (by decide) rfl rfl ?_
        refine J_aload_n (i := 0) (n := 58) dX4_readsNumber_57 rfl rfl rfl ?_
        refine T_get (k := 2) (n := 61) wk_X4 dX4_readsNumber_58 wf_X4_28 (by decide) (by decide) rfl rfl ?_
        rw [h2]
        refine T_bald (n := 62) dX4_readsNumber_61 (by decide) (vp_in_nI (by omega) (by decide)) rfl ?_
        rw [nI_clamp (by omega), gs_neC (by decide), htp.1 p (by omega)]
        refine J_iadd (n := 63) dX4_readsNumber_62 rfl ?_
        refine J_bipush (n := 65) dX4_readsNumber_63 kB_48 rfl ?_
        refine J_isub (n := 66) dX4_readsNumber_65 rfl ?_
        rw [show nd t b (p - b) * nI 10 + nI (t p) - nI 48 = nd t b (p + 1 - b) by rw [show p + 1 - b = (p - b) + 1 by omega]; show _ = nd t b (p - b) * nI 10 + nI (t (b + (p - b))) - nI 48; rw [show b + (p - b) = p by omega]]
        refine T_putI (k := 4) (n := 69) wk_X4 dX4_readsNumber_66 wf_X4_88 (by decide) (by decide) (kN_i _) rfl (Nat.le_of_ble_eq_true rfl) rfl rfl ?_
        refine J_aload_n (i := 0) (n := 70) dX4_readsNumber_69 rfl rfl rfl ?_
        refine J_dup (n := 71) dX4_readsNumber_70 rfl rfl ?_
        refine T_get (k := 2) (n := 74) wk_X4 dX4_readsNumber_71 wf_X4_28 (by decide) (by decide) rfl rfl ?_
        rw [gsf_n _ _ (by decide), h2]
        refine J_iconst (n := 75) dX4_readsNumber_74 kI_1 rfl ?_
        refine J_iadd (n := 76) dX4_readsNumber_75 rfl ?_
        rw [nI_add]
        refine T_putI (k := 2) (n := 79) wk_X4 dX4_readsNumber_76 wf_X4_28 (by decide) (by decide) (kN_i _) rfl (Nat.le_of_ble_eq_true rfl) rfl rfl ?_
        refine J_goto (tgt := 10) dX4_readsNumber_79 (by decide) ?_
        refine ihu (p + 1) _ (by omega) (by omega) (by omega) (fun q q1 q2 => ?_) ((hA.f _ (by decide)).f _ (by decide)) (gsf_s _ _ _) (by rw [gsf_n _ _ (by decide)]; exact gsf_s _ _ _) (by rw [htb]; exact tn_t (by omega) ((nb_t _).mp c_39))
        by_cases e : q = p
        · rw [e]; exact (nb_t _).mp c_39
        · exact hfq q q1 (by omega)
set_option maxHeartbeats 4000000 in
set_option maxRecDepth 100000 in
theorem c_T_readsNumber {G : gx_G} {σ : gs_S} {Q : Option Value → gx_Hp → Prop} {v : gs_Ob} (d : Nat) {t : Nat → Nat} {L : Nat} (ht : tOk t L) (htp : ctp σ t L) {b : Nat} (hb : b ≤ L) (h2 : v.2.1 2 = nI b) (h7 : v.2.1 7 = nI b) (hqS : tn isF t L b - b ≤ 2 → ∀ v1, mA v v1 [2, 3, 4] → v1.2.1 3 = nI 2 → v1.2.1 2 = nI (tn isF t L b) → v1.2.1 4 = nI (nv t b (tn isF t L b - b)) → Q (some (.int (nI 1))) (hp G (gs_set σ 4 0 v1))) (hqF : ¬ tn isF t L b - b ≤ 2 → ∀ v1, mA v v1 [2, 3, 4, 8] → v1.2.1 8 = nI 1 → Q (some (.int (nI 0))) (hp G (gs_set σ 4 0 v1))) : gx_K G yX4_readsNumber mX4_readsNumber (d + 2) 0 0 [.ref (gs_a G 4 0 0)] (hp G (gs_set σ 4 0 v)) Q := by
  refine gx_K.of' (lv := [(0, _)]) (by decide) rfl (by decide) (Nat.le_of_ble_eq_true rfl) rfl ?_
  refine J_aload_n (i := 0) (n := 1) dX4_readsNumber_0 rfl rfl rfl ?_
  refine J_iconst (n := 2) dX4_readsNumber_1 kI_2 rfl ?_
  refine T_putI (k := 3) (n := 5) wk_X4 dX4_readsNumber_2 wf_X4_45 (by decide) (by decide) (kN_i _) rfl (Nat.le_of_ble_eq_true rfl) rfl rfl ?_
  refine J_aload_n (i := 0) (n := 6) dX4_readsNumber_5 rfl rfl rfl ?_
  refine J_iconst (n := 7) dX4_readsNumber_6 kI_0 rfl ?_
  refine T_putI (k := 4) (n := 10) wk_X4 dX4_readsNumber_7 wf_X4_88 (by decide) (by decide) (kN_i _) rfl (Nat.le_of_ble_eq_true rfl) rfl rfl ?_
  have hL := ht.1
  refine j_rn_10 (v := (gs_f (gs_f v 3 (nI 2)) 4 (nI 0))) d ht htp (b := b) (fun v1 hA k2 k4 kf => ?_) (L + 1) b _ (by omega) hb (Nat.le_refl _) (fun q q1 q2 => by omega) (mA.rf _ _) (by rw [gsf_n _ _ (by decide), gsf_n _ _ (by decide)]; exact h2) (by rw [gsf_s, Nat.sub_self]; rfl) rfl
  have hnL := tn_ge isF t hb
  have hA0 : mA v v1 [2, 3, 4] := (((mA.rf _ _).f _ (by decide)).f _ (by decide)).tr (hA.sub (by decide))
  have k7 : v1.2.1 7 = nI b := by rw [hA0.2 7 (by decide)]; exact h7
  have k3 : v1.2.1 3 = nI 2 := by rw [hA.2 3 (by decide), gsf_n _ _ (by decide)]; exact gsf_s _ _ _
  refine J_aload_n (i := 0) (n := 83) dX4_readsNumber_82 rfl rfl rfl ?_
  refine T_get (k := 2) (n := 86) wk_X4 dX4_readsNumber_83 wf_X4_28 (by decide) (by decide) rfl rfl ?_
  rw [k2]
  refine J_aload_n (i := 0) (n := 87) dX4_readsNumber_86 rfl rfl rfl ?_
  refine T_get (k := 7) (n := 90) wk_X4 dX4_readsNumber_87 wf_X4_116 (by decide) (by decide) rfl rfl ?_
  rw [k7]
  refine J_isub (n := 91) dX4_readsNumber_90 rfl ?_
  rw [pk_sub hnL.1]
  refine J_iconst (n := 92) dX4_readsNumber_91 kI_2 rfl ?_
  refine J_icmp_le (tgt := 103) (n := 95) dX4_readsNumber_92 (by decide) rfl (fun c_92 => ?_) (fun c_92 => ?_)
  · rw [nI_leI (by omega) (by decide)] at c_92
    refine J_iconst (n := 104) dX4_readsNumber_103 kI_1 rfl ?_
    refine J_goto (tgt := 108) dX4_readsNumber_104 (by decide) ?_
    refine J_iret dX4_readsNumber_108 rfl (by first | exact kN_0 | exact kN_1) ?_
    exact hqS c_92 v1 hA0 k3 k2 (by rw [k4, nd_2 kf c_92])
  · refine J_aload_n (i := 0) (n := 96) dX4_readsNumber_95 rfl rfl rfl ?_
    refine J_iconst (n := 97) dX4_readsNumber_96 kI_1 rfl ?_
    refine J_callVr (n := 100) wS_X4_refuses (c_T_refuses (d + 1) (nI 1) ⟨rfl, rfl⟩) dX4_readsNumber_97 wm_X4_55 ⟨wM_X4_refuses, wV_X4_refuses⟩ rfl (T_recv (by decide) (by decide)) rfl rfl (Nat.le_of_ble_eq_true rfl) rfl ?_
    refine J_if_eq (tgt := 107) (n := 103) dX4_readsNumber_100 (by decide) rfl (fun c_100 => ?_) (fun c_100 => ?_)
    · refine J_iconst (n := 108) dX4_readsNumber_107 kI_0 rfl ?_
      refine J_iret dX4_readsNumber_108 rfl (by first | exact kN_0 | exact kN_1) ?_
      rw [nI_leI (by omega) (by decide)] at c_92
      exact hqF c_92 _ ((hA0.sub (by decide)).f _ (by decide)) (gsf_s _ _ _)
    · exact absurd rfl c_100

set_option maxHeartbeats 4000000 in
set_option maxRecDepth 100000 in
theorem j_rt_0 {G : gx_G} {σ : gs_S} {Q : Option Value → gx_Hp → Prop} {v : gs_Ob} (d : Nat) {t : Nat → Nat} {L : Nat} (ht : tOk t L) (htp : ctp σ t L) {i : Nat} (k44 : ∀ v1, mA v v1 [2] → v1.2.1 2 = nI (tb t L i) → gx_J G mX4_readsToken (d + 3) 0 0 Q 44 [(0, .ref (gs_a G 4 0 0))] [] (hp G (gs_set σ 4 0 v1))) : ∀ u p v1, L - p < u → p ≤ L → mA v v1 [2] → v1.2.1 2 = nI p → tb t L i = tb t L p → gx_J G mX4_readsToken (d + 3) 0 0 Q 0 [(0, .ref (gs_a G 4 0 0))] [] (hp G (gs_set σ 4 0 v1)) := by
  have hL := ht.1
  intro u
  induction u with
  | zero => intros; exact absurd (by assumption) (Nat.not_lt_zero _)
  | succ u ihu =>
    intro p v1 hu hp0 hA h2 htb
    refine J_aload_n (i := 0) (n := 1) dX4_readsToken_0 rfl rfl rfl ?_
    refine T_get (k := 2) (n := 4) wk_X4 dX4_readsToken_1 wf_X4_28 (by decide) (by decide) rfl rfl ?_
    rw [h2]
    refine J_aload_n (i := 0) (n := 5) dX4_readsToken_4 rfl rfl rfl ?_
    refine T_get (k := 0) (n := 8) wk_X4 dX4_readsToken_5 wf_X4_12 (by decide) (by decide) rfl rfl ?_
    refine T_getO (k := 1) (n := 11) wk_X3 dX4_readsToken_8 wf_X4_109 (by decide) (by decide) rfl rfl ?_
    rw [gs_neC (by decide), htp.2]
    refine J_icmp_ge (tgt := 44) (n := 14) dX4_readsToken_11 (by decide) rfl (fun c_11 => ?_) (fun c_11 => ?_)
    · refine k44 v1 hA ?_
      rw [h2, htb, show tb t L p = p from tn_f (by
        first
        | (rw [nI_leI (by omega) (by omega)] at c_11; left; omega)
        | (right
           rw [nI_eq (by have := ht.2 p (by omega); omega) (by decide)] at c_28
           exact decide_eq_false c_28))]
    · rw [nI_leI (by omega) (by omega)] at c_11
      refine J_aload_n (i := 0) (n := 15) dX4_readsToken_14 rfl rfl rfl ?_
      refine T_get (k := 0) (n := 18) wk_X4 dX4_readsToken_15 wf_X4_12 (by decide) (by decide) rfl rfl ?_
      refine T_getO (k := 0) (n := 21) wk_X3 dX4_readsToken_18 wf_X4_112 (by decide) (by decide) rfl rfl ?_
      refine J_aload_n (i := 0) (n := 22) dX4_readsToken_21 rfl rfl rfl ?_
      refine T_get (k := 2) (n := 25) wk_X4 dX4_readsToken_22 wf_X4_28 (by decide) (by decide) rfl rfl ?_
      rw [h2]
      refine T_bald (n := 26) dX4_readsToken_25 (by decide) (vp_in_nI (by omega) (by decide)) rfl ?_
      rw [nI_clamp (by omega), gs_neC (by decide), htp.1 p (by omega)]
      refine J_bipush (n := 28) dX4_readsToken_26 kB_32 rfl ?_
      refine J_icmp_ne (tgt := 44) (n := 31) dX4_readsToken_28 (by decide) rfl (fun c_28 => ?_) (fun c_28 => ?_)
      · refine k44 v1 hA ?_
        rw [h2, htb, show tb t L p = p from tn_f (by
          first
          | (rw [nI_leI (by omega) (by omega)] at c_11; left; omega)
          | (right
             rw [nI_eq (by have := ht.2 p (by omega); omega) (by decide)] at c_28
             exact decide_eq_false c_28))]
      · rw [nI_eq (by have := ht.2 p (by omega); omega) (by decide)] at c_28
        refine J_aload_n (i := 0) (n := 32) dX4_readsToken_31 rfl rfl rfl ?_
        refine J_dup (n := 33) dX4_readsToken_32 rfl rfl ?_
        refine T_get (k := 2) (n := 36) wk_X4 dX4_readsToken_33 wf_X4_28 (by decide) (by decide) rfl rfl ?_
        rw [h2]
        refine J_iconst (n := 37) dX4_readsToken_36 kI_1 rfl ?_
        refine J_iadd (n := 38) dX4_readsToken_37 rfl ?_
        rw [nI_add]
        refine T_putI (k := 2) (n := 41) wk_X4 dX4_readsToken_38 wf_X4_28 (by decide) (by decide) (kN_i _) rfl (Nat.le_of_ble_eq_true rfl) rfl rfl ?_
        refine J_goto (tgt := 0) dX4_readsToken_41 (by decide) ?_
        exact ihu (p + 1) _ (by omega) (by omega) (hA.f _ (by decide)) (gsf_s _ _ _) (by rw [htb]; exact tn_t (by omega) (by unfold isB; rw [c_28]; rfl))
set_option maxHeartbeats 4000000 in
set_option maxRecDepth 100000 in
theorem c_T_readsToken {G : gx_G} {σ : gs_S} {Q : Option Value → gx_Hp → Prop} {v : gs_Ob} (d : Nat) {t : Nat → Nat} {L : Nat} (ht : tOk t L) (htp : ctp σ t L) {i : Nat} (hi : i ≤ L) (h2 : v.2.1 2 = nI i) (hqS : ¬ (tk t L i).1 = 4 → ∀ v1, mA v v1 [2, 3, 4, 7, 8] → v1.2.1 8 = v.2.1 8 → ctk v1 t L i → Q (some (.int (nI 1))) (hp G (gs_set σ 4 0 v1))) (hqF : (tk t L i).1 = 4 → ∀ v1, mA v v1 [2, 3, 4, 7, 8] → cflt v1 (1, tb t L i) → Q (some (.int (nI 0))) (hp G (gs_set σ 4 0 v1))) : gx_K G yX4_readsToken mX4_readsToken (d + 3) 0 0 [.ref (gs_a G 4 0 0)] (hp G (gs_set σ 4 0 v)) Q := by
  refine gx_K.of' (lv := [(0, _)]) (by decide) rfl (by decide) (Nat.le_of_ble_eq_true rfl) rfl ?_
  have hL := ht.1
  have hbL := (tb_le t hi).2
  refine j_rt_0 d ht htp (i := i) (fun v1 hA1 k2 => ?_) (L + 1) i v (by omega) hi (mA.rf _ _) h2 rfl
  refine J_aload_n (i := 0) (n := 45) dX4_readsToken_44 rfl rfl rfl ?_
  refine J_aload_n (i := 0) (n := 46) dX4_readsToken_45 rfl rfl rfl ?_
  refine T_get (k := 2) (n := 49) wk_X4 dX4_readsToken_46 wf_X4_28 (by decide) (by decide) rfl rfl ?_
  rw [k2]
  refine T_putI (k := 7) (n := 52) wk_X4 dX4_readsToken_49 wf_X4_116 (by decide) (by decide) (kN_i _) rfl (Nat.le_of_ble_eq_true rfl) rfl rfl ?_
  have hA2 : mA v (gs_f v1 7 (nI (tb t L i))) [2, 3, 4, 7, 8] := (hA1.sub (by decide)).f _ (by decide)
  have e7 : (gs_f v1 7 (nI (tb t L i))).2.1 7 = nI (tb t L i) := gsf_s _ _ _
  have e2 : (gs_f v1 7 (nI (tb t L i))).2.1 2 = nI (tb t L i) := by rw [gsf_n _ _ (by decide)]; exact k2
  have e8 : (gs_f v1 7 (nI (tb t L i))).2.1 8 = v.2.1 8 := by rw [gsf_n _ _ (by decide)]; exact hA1.2 8 (by decide)
  generalize gs_f v1 7 (nI (tb t L i)) = v2 at hA2 e7 e2 e8 ⊢
  refine J_aload_n (i := 0) (n := 53) dX4_readsToken_52 rfl rfl rfl ?_
  refine T_get (k := 2) (n := 56) wk_X4 dX4_readsToken_53 wf_X4_28 (by decide) (by decide) rfl rfl ?_
  rw [e2]
  refine J_aload_n (i := 0) (n := 57) dX4_readsToken_56 rfl rfl rfl ?_
  refine T_get (k := 0) (n := 60) wk_X4 dX4_readsToken_57 wf_X4_12 (by decide) (by decide) rfl rfl ?_
  refine T_getO (k := 1) (n := 63) wk_X3 dX4_readsToken_60 wf_X4_109 (by decide) (by decide) rfl rfl ?_
  rw [gs_neC (by decide), htp.2]
  refine J_icmp_lt (tgt := 73) (n := 66) dX4_readsToken_63 (by decide) rfl (fun c_63 => ?_) (fun c_63 => ?_)
  · rw [nI_ltI (by omega) (by omega)] at c_63
    have h127 := ht.2 (tb t L i) c_63
    refine J_aload_n (i := 0) (n := 74) dX4_readsToken_73 rfl rfl rfl ?_
    refine T_get (k := 0) (n := 77) wk_X4 dX4_readsToken_74 wf_X4_12 (by decide) (by decide) rfl rfl ?_
    refine T_getO (k := 0) (n := 80) wk_X3 dX4_readsToken_77 wf_X4_112 (by decide) (by decide) rfl rfl ?_
    refine J_aload_n (i := 0) (n := 81) dX4_readsToken_80 rfl rfl rfl ?_
    refine T_get (k := 2) (n := 84) wk_X4 dX4_readsToken_81 wf_X4_28 (by decide) (by decide) rfl rfl ?_
    rw [e2]
    refine T_bald (n := 85) dX4_readsToken_84 (by decide) (vp_in_nI (by omega) (by decide)) rfl ?_
    rw [nI_clamp (by omega), gs_neC (by decide), htp.1 (tb t L i) c_63]
    refine J_istore_n (i := 1) (n := 86) (lv' := [(0, _), (1, _)]) dX4_readsToken_85 rfl (by decide) rfl rfl ?_
    refine J_iload_n (i := 1) (n := 87) dX4_readsToken_86 rfl rfl rfl ?_
    refine J_bipush (n := 89) dX4_readsToken_87 kB_59 rfl ?_
    refine J_icmp_ne (tgt := 109) (n := 92) dX4_readsToken_89 (by decide) rfl (fun c_89 => ?_) (fun c_89 => ?_)
    · rw [nI_eq (by omega) (by decide)] at c_89
      refine J_iload_n (i := 1) (n := 110) dX4_readsToken_109 rfl rfl rfl ?_
      refine J_callSr (n := 113) wS_X4_isLetter (c_T_isLetter (d + 2) (c := t (tb t L i)) (by omega) ⟨rfl, rfl⟩) dX4_readsToken_110 wm_X4_119 wT_X4_isLetter rfl rfl (Nat.le_of_ble_eq_true rfl) rfl ?_
      refine J_if_eq (tgt := 121) (n := 116) dX4_readsToken_113 (by decide) rfl (fun c_113 => ?_) (fun c_113 => ?_)
      · refine J_iload_n (i := 1) (n := 122) dX4_readsToken_121 rfl rfl rfl ?_
        refine J_callSr (n := 125) wS_X4_isFigure (c_T_isFigure (d + 2) (c := t (tb t L i)) (by omega) ⟨rfl, rfl⟩) dX4_readsToken_122 wm_X4_125 wT_X4_isFigure rfl rfl (Nat.le_of_ble_eq_true rfl) rfl ?_
        refine J_if_eq (tgt := 135) (n := 128) dX4_readsToken_125 (by decide) rfl (fun c_125 => ?_) (fun c_125 => ?_)
        · refine J_aload_n (i := 0) (n := 136) dX4_readsToken_135 rfl rfl rfl ?_
          refine J_iconst (n := 137) dX4_readsToken_136 kI_1 rfl ?_
          refine J_callVr (n := 140) wS_X4_refuses (c_T_refuses (d + 2) (nI 1) ⟨rfl, rfl⟩) dX4_readsToken_137 wm_X4_55 ⟨wM_X4_refuses, wV_X4_refuses⟩ rfl (T_recv (by decide) (by decide)) rfl rfl (Nat.le_of_ble_eq_true rfl) rfl ?_
          refine J_iret dX4_readsToken_140 rfl (by first | exact kN_0 | exact kN_1) ?_
          have htk := tk_4 c_63 c_89 ((nb_0 _).mp c_113) ((nb_0 _).mp c_125)
          have hk4 : (tk t L i).1 = 4 := by rw [htk]
          exact hqF hk4 _ (hA2.f _ (by decide)) ⟨gsf_s _ _ _, by rw [gsf_n _ _ (by decide)]; exact e7⟩
        · have hnl := (nb_0 _).mp c_113
          have hf := (nb_t _).mp c_125
          have htk := tk_2 c_63 hnl hf
          by_cases h2d : tn isF t L (tb t L i) - (tb t L i) ≤ 2
          · rw [if_pos h2d] at htk
            have hk4 : ¬ (tk t L i).1 = 4 := by rw [htk]; intro q; cases q
            refine J_aload_n (i := 0) (n := 129) dX4_readsToken_128 rfl rfl rfl ?_
            refine J_callVx (n := 132) wS_X4_readsNumber (c_T_readsNumber (Q := fun r h => r = some (.int (nI 1)) ∧ ∃ v3, mA v2 v3 [2, 3, 4] ∧ v3.2.1 3 = nI 2 ∧ v3.2.1 2 = nI (tn isF t L (tb t L i)) ∧ v3.2.1 4 = nI (nv t (tb t L i) (tn isF t L (tb t L i) - (tb t L i))) ∧ h = hp G (gs_set σ 4 0 v3)) d ht htp (b := (tb t L i)) hbL e2 e7 (fun _ v3 a1 a2 a3 a4 => ⟨rfl, v3, a1, a2, a3, a4, rfl⟩) (fun q => absurd h2d q)) dX4_readsToken_129 wm_X4_128 ⟨wM_X4_readsNumber, wV_X4_readsNumber⟩ rfl (T_recv (by decide) (by decide)) rfl rfl (Nat.le_of_ble_eq_true rfl) rfl (fun r h1 hq1 => ?_)
            obtain ⟨rfl, v3, a1, a2, a3, a4, rfl⟩ := hq1
            refine J_goto (tgt := 140) dX4_readsToken_132 (by decide) ?_
            refine J_iret dX4_readsToken_140 rfl (by first | exact kN_0 | exact kN_1) ?_
            exact hqS hk4 v3 (hA2.tr (a1.sub (by decide))) (by rw [a1.2 8 (by decide)]; exact e8) ⟨by rw [a1.2 7 (by decide)]; exact e7, by rw [htk]; exact a3, by rw [htk]; exact a2, fun _ => by rw [htk]; exact a4⟩
          · rw [if_neg h2d] at htk
            have hk4 : (tk t L i).1 = 4 := by rw [htk]
            refine J_aload_n (i := 0) (n := 129) dX4_readsToken_128 rfl rfl rfl ?_
            refine J_callVx (n := 132) wS_X4_readsNumber (c_T_readsNumber (Q := fun r h => r = some (.int (nI 0)) ∧ ∃ v3, mA v2 v3 [2, 3, 4, 8] ∧ v3.2.1 8 = nI 1 ∧ h = hp G (gs_set σ 4 0 v3)) d ht htp (b := (tb t L i)) hbL e2 e7 (fun q => absurd q h2d) (fun _ v3 a1 a2 => ⟨rfl, v3, a1, a2, rfl⟩)) dX4_readsToken_129 wm_X4_128 ⟨wM_X4_readsNumber, wV_X4_readsNumber⟩ rfl (T_recv (by decide) (by decide)) rfl rfl (Nat.le_of_ble_eq_true rfl) rfl (fun r h1 hq1 => ?_)
            obtain ⟨rfl, v3, a1, a2, rfl⟩ := hq1
            refine J_goto (tgt := 140) dX4_readsToken_132 (by decide) ?_
            refine J_iret dX4_readsToken_140 rfl (by first | exact kN_0 | exact kN_1) ?_
            exact hqF hk4 v3 (hA2.tr (a1.sub (by decide))) ⟨a2, by rw [a1.2 7 (by decide)]; exact e7⟩
      · have hl := (nb_t _).mp c_113
        have htk := tk_1 c_63 hl
        have hk4 : ¬ (tk t L i).1 = 4 := by rw [htk]; intro q; cases q
        refine J_aload_n (i := 0) (n := 117) dX4_readsToken_116 rfl rfl rfl ?_
        refine J_callVx (n := 120) wS_X4_readsWord (c_T_readsWord (Q := fun r h => r = some (.int (nI 1)) ∧ ∃ v3, mA v2 v3 [2, 3] ∧ v3.2.1 3 = nI 1 ∧ v3.2.1 2 = nI (tn isL t L (tb t L i)) ∧ h = hp G (gs_set σ 4 0 v3)) (d + 1) ht htp (b := (tb t L i)) hbL e2 (fun v3 a1 a2 a3 => ⟨rfl, v3, a1, a2, a3, rfl⟩)) dX4_readsToken_117 wm_X4_122 ⟨wM_X4_readsWord, wV_X4_readsWord⟩ rfl (T_recv (by decide) (by decide)) rfl rfl (Nat.le_of_ble_eq_true rfl) rfl (fun r h1 hq1 => ?_)
        obtain ⟨rfl, v3, a1, a2, a3, rfl⟩ := hq1
        refine J_iret dX4_readsToken_120 rfl (by first | exact kN_0 | exact kN_1) ?_
        exact hqS hk4 v3 (hA2.tr (a1.sub (by decide))) (by rw [a1.2 8 (by decide)]; exact e8) ⟨by rw [a1.2 7 (by decide)]; exact e7, by rw [htk]; exact a3, by rw [htk]; exact a2, fun q => by rw [htk] at q; cases q⟩
    · rw [nI_eq (by omega) (by decide)] at c_89
      refine J_aload_n (i := 0) (n := 93) dX4_readsToken_92 rfl rfl rfl ?_
      refine J_iconst (n := 94) dX4_readsToken_93 kI_3 rfl ?_
      refine T_putI (k := 3) (n := 97) wk_X4 dX4_readsToken_94 wf_X4_45 (by decide) (by decide) (kN_i _) rfl (Nat.le_of_ble_eq_true rfl) rfl rfl ?_
      refine J_aload_n (i := 0) (n := 98) dX4_readsToken_97 rfl rfl rfl ?_
      refine J_dup (n := 99) dX4_readsToken_98 rfl rfl ?_
      refine T_get (k := 2) (n := 102) wk_X4 dX4_readsToken_99 wf_X4_28 (by decide) (by decide) rfl rfl ?_
      rw [gsf_n _ _ (by decide), e2]
      refine J_iconst (n := 103) dX4_readsToken_102 kI_1 rfl ?_
      refine J_iadd (n := 104) dX4_readsToken_103 rfl ?_
      rw [nI_add]
      refine T_putI (k := 2) (n := 107) wk_X4 dX4_readsToken_104 wf_X4_28 (by decide) (by decide) (kN_i _) rfl (Nat.le_of_ble_eq_true rfl) rfl rfl ?_
      refine J_iconst (n := 108) dX4_readsToken_107 kI_1 rfl ?_
      refine J_iret dX4_readsToken_108 rfl (by first | exact kN_0 | exact kN_1) ?_
      have htk := tk_3 c_63 c_89
      have hk4 : ¬ (tk t L i).1 = 4 := by rw [htk]; intro q; cases q
      exact hqS hk4 _ ((hA2.f _ (by decide)).f _ (by decide)) (by rw [gsf_n _ _ (by decide), gsf_n _ _ (by decide)]; exact e8) ⟨by rw [gsf_n _ _ (by decide), gsf_n _ _ (by decide)]; exact e7, by rw [gsf_s, htk], by rw [gsf_n _ _ (by decide), gsf_s, htk], fun q => by rw [htk] at q; cases q⟩
  · rw [nI_ltI (by omega) (by omega)] at c_63
    refine J_aload_n (i := 0) (n := 67) dX4_readsToken_66 rfl rfl rfl ?_
    refine J_iconst (n := 68) dX4_readsToken_67 kI_0 rfl ?_
    refine T_putI (k := 3) (n := 71) wk_X4 dX4_readsToken_68 wf_X4_45 (by decide) (by decide) (kN_i _) rfl (Nat.le_of_ble_eq_true rfl) rfl rfl ?_
    refine J_iconst (n := 72) dX4_readsToken_71 kI_1 rfl ?_
    refine J_iret dX4_readsToken_72 rfl (by first | exact kN_0 | exact kN_1) ?_
    have htk := tk_0 (t := t) (L := L) (i := i) c_63
    have hk4 : ¬ (tk t L i).1 = 4 := by rw [htk]; intro q; cases q
    exact hqS hk4 _ (hA2.f _ (by decide)) (by rw [gsf_n _ _ (by decide)]; exact e8) ⟨by rw [gsf_n _ _ (by decide)]; exact e7, by rw [gsf_n _ _ (by decide), htk]; exact e2, by rw [gsf_s, htk], fun q => by rw [htk] at q; cases q⟩

