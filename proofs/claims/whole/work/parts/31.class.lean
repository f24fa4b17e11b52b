def ixR (v m : Int32) : Bool := decide (¬ v < 0) && decide (¬ m < v)
def gr (w : Int32) : Int32 := if w = 0 then nI 3 else if w = 1 then nI 11 else if w = 2 then nI 20 else -1
theorem ixR_gr (w v : Int32) : ixR v (gr w) = grb w v := by
  unfold gr grb
  split
  · rfl
  · split
    · rfl
    · split
      · rfl
      · unfold ixR
        by_cases h : v < 0
        · simp [h]
        · rw [decide_eq_false (p := ¬ (-1 : Int32) < v) (Classical.not_not.mpr (Int32.lt_of_lt_of_le (by decide +kernel : (-1 : Int32) < 0) (Int32.not_lt.mp h)))]
          simp
theorem SOk.t {S : pS} (h : SOk S) : S.2.2.2.1.2 ≤ 160 := h.2.2.1.1
set_option maxHeartbeats 4000000 in
set_option maxRecDepth 100000 in
theorem c_isWithinR {G : gx_G} {h : gx_Hp} {Q : Option Value → gx_Hp → Prop} (d : Nat) (v m : Int32) (hq : Q (some (.int (nI (ixR v m).toNat))) h) : gx_K G yX6_isWithin mX6_isWithin d 0 0 [.int v, .int m] h Q := by
  refine gx_K.of' (lv := [(0, _), (1, _)]) (by decide) rfl (by decide) (Nat.le_of_ble_eq_true rfl) rfl ?_
  refine J_iload_n (i := 0) (n := 1) dX6_isWithin_0 rfl rfl rfl ?_
  refine J_if_lt (tgt := 13) (n := 4) dX6_isWithin_1 (by decide) rfl (fun c_1 => ?_) (fun c_1 => ?_)
  · refine J_iconst (n := 14) dX6_isWithin_13 kI_0 rfl ?_
    refine J_iret dX6_isWithin_14 rfl (by first | exact kN_0 | exact kN_1) ?_
    unfold ixR at hq
    first
    | (rw [decide_eq_false (Classical.not_not.mpr c_1)] at hq; exact hq)
    | (rw [decide_eq_true c_1, decide_eq_false (Classical.not_not.mpr c_6)] at hq; exact hq)
    | (rw [decide_eq_true c_1, decide_eq_true c_6] at hq; exact hq)
  · refine J_iload_n (i := 0) (n := 5) dX6_isWithin_4 rfl rfl rfl ?_
    refine J_iload_n (i := 1) (n := 6) dX6_isWithin_5 rfl rfl rfl ?_
    refine J_icmp_gt (tgt := 13) (n := 9) dX6_isWithin_6 (by decide) rfl (fun c_6 => ?_) (fun c_6 => ?_)
    · refine J_iconst (n := 14) dX6_isWithin_13 kI_0 rfl ?_
      refine J_iret dX6_isWithin_14 rfl (by first | exact kN_0 | exact kN_1) ?_
      unfold ixR at hq
      first
      | (rw [decide_eq_false (Classical.not_not.mpr c_1)] at hq; exact hq)
      | (rw [decide_eq_true c_1, decide_eq_false (Classical.not_not.mpr c_6)] at hq; exact hq)
      | (rw [decide_eq_true c_1, decide_eq_true c_6] at hq; exact hq)
    · refine J_iconst (n := 10) dX6_isWithin_9 kI_1 rfl ?_
      refine J_goto (tgt := 14) dX6_isWithin_10 (by decide) ?_
      refine J_iret dX6_isWithin_14 rfl (by first | exact kN_0 | exact kN_1) ?_
      unfold ixR at hq
      first
      | (rw [decide_eq_false (Classical.not_not.mpr c_1)] at hq; exact hq)
      | (rw [decide_eq_true c_1, decide_eq_false (Classical.not_not.mpr c_6)] at hq; exact hq)
      | (rw [decide_eq_true c_1, decide_eq_true c_6] at hq; exact hq)

set_option maxHeartbeats 4000000 in
set_option maxRecDepth 100000 in
theorem c_greatestOf {G : gx_G} {h : gx_Hp} {Q : Option Value → gx_Hp → Prop} (d : Nat) (w : Int32) (hq : Q (some (.int (gr w))) h) : gx_K G yX6_greatestOf mX6_greatestOf d 0 0 [.int w] h Q := by
  refine gx_K.of' (lv := [(0, _)]) (by decide) rfl (by decide) (Nat.le_of_ble_eq_true rfl) rfl ?_
  refine J_iload_n (i := 0) (n := 1) dX6_greatestOf_0 rfl rfl rfl ?_
  by_cases e_1_0 : w = 0
  · rw [e_1_0]
    refine J_tableIn (off := 27) (tgt := 28) dX6_greatestOf_1 (by decide) (by decide) (by decide) (by decide) ?_
    refine J_iconst (n := 29) dX6_greatestOf_28 kI_3 rfl ?_
    refine J_iret dX6_greatestOf_29 rfl (kN_i _) ?_
    unfold gr at hq
    rw [if_pos e_1_0] at hq
    exact hq
  by_cases e_1_1 : w = 1
  · rw [e_1_1]
    refine J_tableIn (off := 29) (tgt := 30) dX6_greatestOf_1 (by decide) (by decide) (by decide) (by decide) ?_
    refine J_bipush (n := 32) dX6_greatestOf_30 kB_11 rfl ?_
    refine J_iret dX6_greatestOf_32 rfl (kN_i _) ?_
    unfold gr at hq
    rw [if_neg e_1_0, if_pos e_1_1] at hq
    exact hq
  by_cases e_1_2 : w = 2
  · rw [e_1_2]
    refine J_tableIn (off := 32) (tgt := 33) dX6_greatestOf_1 (by decide) (by decide) (by decide) (by decide) ?_
    refine J_bipush (n := 35) dX6_greatestOf_33 kB_20 rfl ?_
    refine J_iret dX6_greatestOf_35 rfl (kN_i _) ?_
    unfold gr at hq
    rw [if_neg e_1_0, if_neg e_1_1, if_pos e_1_2] at hq
    exact hq
  refine J_tableOut (tgt := 36) dX6_greatestOf_1 (by have q_0 := lv_neT (a := 0) e_1_0 rfl; have q_1 := lv_neT (a := 1) e_1_1 rfl; have q_2 := lv_neT (a := 2) e_1_2 rfl; omega) (by decide) ?_
  refine J_iconst (n := 37) dX6_greatestOf_36 kI_m1 rfl ?_
  refine J_iret dX6_greatestOf_37 rfl (kN_i _) ?_
  unfold gr at hq
  rw [if_neg e_1_0, if_neg e_1_1, if_neg e_1_2] at hq
  exact hq

set_option maxHeartbeats 4000000 in
set_option maxRecDepth 100000 in
theorem c_G_refusalOf {G : gx_G} {σ : gs_S} {Q : Option Value → gx_Hp → Prop} {S : pS} (d : Nat) (g w v : Int32) (hS : SOk S) (hc : cR σ S) (hq : Q (some (.int (sp_no S g w v))) (hp G σ)) : gx_K G yX6_refusalOf mX6_refusalOf (d + 2) 0 0 [.ref (gs_a G 6 0 0), .int g, .int w, .int v] (hp G σ) Q := by
  obtain ⟨hw, hs⟩ := hc.1
  have hO := hS.1.1
  have h4 : S.1.1.2.2 6 ≤ 4 := hO.2.2.2.2.1
  have h6 : S.1.1.2.2 7 ≤ 6 := hO.2.2.2.2.2.1
  have hm11 : S.1.1.2.2 8 ≤ 11 := hO.2.2.2.2.2.2.1
  have hn9 : S.1.1.2.2 9 ≤ 9999 := hO.2.2.2.2.2.2.2
  have hd9 : S.1.1.2.2 10 ≤ 999 := hS.1.2.2.1
  have e6 := hw.2.2.2.2 6 (by decide) (by decide)
  have e7 := hw.2.2.2.2 7 (by decide) (by decide)
  have e8 := hw.2.2.2.2 8 (by decide) (by decide)
  have e9 := hw.2.2.2.2 9 (by decide) (by decide)
  have e10 := hw.2.2.2.2 10 (by decide) (by decide)
  refine gx_K.of' (lv := [(0, _), (1, _), (2, _), (3, _)]) (by decide) rfl (by decide) (Nat.le_of_ble_eq_true rfl) rfl ?_
  refine J_aload_n (i := 0) (n := 1) dX6_refusalOf_0 rfl rfl rfl ?_
  refine J_iload_n (i := 1) (n := 2) dX6_refusalOf_1 rfl rfl rfl ?_
  refine J_callVr (n := 5) wS_X6_isGlove (c_isGlove d g hw hO ⟨rfl, rfl⟩) dX6_refusalOf_2 wm_X6_121 ⟨wM_X6_isGlove, wV_X6_isGlove⟩ rfl (T_recv (by decide) (by first | assumption | decide)) rfl rfl (Nat.le_of_ble_eq_true rfl) rfl ?_
  refine J_if_eq (tgt := 19) (n := 8) dX6_refusalOf_5 (by decide) rfl (fun c_5 => ?_) (fun c_5 => ?_)
  · refine J_iconst (n := 20) dX6_refusalOf_19 kI_m1 rfl ?_
    refine J_iret dX6_refusalOf_20 rfl (kN_i _) ?_
    unfold sp_no at hq
    have hg : ¬ (isG S g && grb w v) = true := by
      first
      | (rw [nb_0] at c_5; rw [show isG S g = false from c_5, Bool.false_and]; decide)
      | (rw [nb_0] at c_16; rw [c_16]; simp)
    rw [if_neg hg] at hq
    exact hq
  · refine J_iload_n (i := 3) (n := 9) dX6_refusalOf_8 rfl rfl rfl ?_
    refine J_iload_n (i := 2) (n := 10) dX6_refusalOf_9 rfl rfl rfl ?_
    refine J_callSr (n := 13) wS_X6_greatestOf (c_greatestOf (d + 1) w ⟨rfl, rfl⟩) dX6_refusalOf_10 wm_X6_264 wT_X6_greatestOf rfl rfl (Nat.le_of_ble_eq_true rfl) rfl ?_
    refine J_callSr (n := 16) wS_X6_isWithin (c_isWithinR (d + 1) v (gr w) ⟨rfl, rfl⟩) dX6_refusalOf_13 wm_X6_51 wT_X6_isWithin rfl rfl (Nat.le_of_ble_eq_true rfl) rfl ?_
    rw [ixR_gr]
    refine J_if_ne (tgt := 21) (n := 19) dX6_refusalOf_16 (by decide) rfl (fun c_16 => ?_) (fun c_16 => ?_)
    · rw [nb_t] at c_5 c_16
      have hg : (isG S g && grb w v) = true := by rw [show isG S g = true from c_5, c_16]; rfl
      unfold sp_no at hq
      rw [if_pos hg] at hq
      obtain ⟨j, hj, rfl⟩ := isG_of (S := S) c_5 hO
      rw [show nat (nI j) = j from nI_clamp (by omega)] at hq
      refine J_iload_n (i := 2) (n := 22) dX6_refusalOf_21 rfl rfl rfl ?_
      refine J_iconst (n := 23) dX6_refusalOf_22 kI_1 rfl ?_
      refine J_icmp_ne (tgt := 42) (n := 26) dX6_refusalOf_23 (by decide) rfl (fun c_23 => ?_) (fun c_23 => ?_)
      · refine J_iconst (n := 43) dX6_refusalOf_42 kI_0 rfl ?_
        refine J_iret dX6_refusalOf_43 rfl (kN_i _) ?_
        first
        | (rw [if_neg (fun k => c_23 k.1)] at hq; exact hq)
        | (rw [nb_0] at c_34; rw [if_neg (fun k => by rw [c_34] at k; exact absurd k.2 (by decide))] at hq; exact hq)
        | (rw [nb_t] at c_34; rw [if_pos ⟨c_23, c_34⟩] at hq; exact hq)
      · refine J_aload_n (i := 0) (n := 27) dX6_refusalOf_26 rfl rfl rfl ?_
        refine T_getO (k := 0) (n := 30) wk_X6 dX6_refusalOf_27 wf_X6_10 (by decide) (by first | assumption | decide) rfl rfl ?_
        refine J_iload_n (i := 1) (n := 31) dX6_refusalOf_30 rfl rfl rfl ?_
        refine J_callVr (n := 34) wS_X5_isPaired (c_W_isPaired (d + 1) (by decide) hw (by omega) ⟨rfl, rfl⟩) dX6_refusalOf_31 wm_X6_129 ⟨wM_X5_isPaired, wV_X5_isPaired⟩ rfl (T_recv (by decide) (by first | assumption | decide)) rfl rfl (Nat.le_of_ble_eq_true rfl) rfl ?_
        refine J_if_eq (tgt := 42) (n := 37) dX6_refusalOf_34 (by decide) rfl (fun c_34 => ?_) (fun c_34 => ?_)
        · refine J_iconst (n := 43) dX6_refusalOf_42 kI_0 rfl ?_
          refine J_iret dX6_refusalOf_43 rfl (kN_i _) ?_
          first
          | (rw [if_neg (fun k => c_23 k.1)] at hq; exact hq)
          | (rw [nb_0] at c_34; rw [if_neg (fun k => by rw [c_34] at k; exact absurd k.2 (by decide))] at hq; exact hq)
          | (rw [nb_t] at c_34; rw [if_pos ⟨c_23, c_34⟩] at hq; exact hq)
        · refine J_bipush (n := 39) dX6_refusalOf_37 kB_m2 rfl ?_
          refine J_goto (tgt := 43) dX6_refusalOf_39 (by decide) ?_
          refine J_iret dX6_refusalOf_43 rfl (kN_i _) ?_
          first
          | (rw [if_neg (fun k => c_23 k.1)] at hq; exact hq)
          | (rw [nb_0] at c_34; rw [if_neg (fun k => by rw [c_34] at k; exact absurd k.2 (by decide))] at hq; exact hq)
          | (rw [nb_t] at c_34; rw [if_pos ⟨c_23, c_34⟩] at hq; exact hq)
    · refine J_iconst (n := 20) dX6_refusalOf_19 kI_m1 rfl ?_
      refine J_iret dX6_refusalOf_20 rfl (kN_i _) ?_
      unfold sp_no at hq
      have hg : ¬ (isG S g && grb w v) = true := by
        first
        | (rw [nb_0] at c_5; rw [show isG S g = false from c_5, Bool.false_and]; decide)
        | (rw [nb_0] at c_16; rw [c_16]; simp)
      rw [if_neg hg] at hq
      exact hq

set_option maxHeartbeats 4000000 in
set_option maxRecDepth 100000 in
theorem c_G_feed {G : gx_G} {σ : gs_S} {Q : Option Value → gx_Hp → Prop} {S : pS} (d : Nat) (v : Int32) (hS : SOk S) (hc : cR σ S) (hq : ∀ τ, cR τ (sp_feed S v).2 → τ 7 0 = σ 7 0 → Q (some (.int (sp_feed S v).1)) (hp G τ)) : gx_K G yX6_feed mX6_feed (d + 12) 0 0 [.ref (gs_a G 6 0 0), .int v] (hp G σ) Q := by
  obtain ⟨ht, hl⟩ := hc.2.2.1
  have h160 := hS.t
  refine gx_K.of' (lv := [(0, _), (1, _)]) (by decide) rfl (by decide) (Nat.le_of_ble_eq_true rfl) rfl ?_
  refine J_iload_n (i := 1) (n := 1) dX6_feed_0 rfl rfl rfl ?_
  refine J_bipush (n := 3) dX6_feed_1 kB_127 rfl ?_
  refine J_callSr (n := 6) wS_X6_isWithin (c_isWithin (d + 11) v 127 ⟨rfl, rfl⟩) dX6_feed_3 wm_X6_51 wT_X6_isWithin rfl rfl (Nat.le_of_ble_eq_true rfl) rfl ?_
  refine J_if_ne (tgt := 11) (n := 9) dX6_feed_6 (by decide) rfl (fun c_6 => ?_) (fun c_6 => ?_)
  · rw [nb_t] at c_6
    unfold sp_feed at hq
    rw [if_pos c_6] at hq
    obtain ⟨j, hj, rfl⟩ := ix_of c_6 (by decide)
    rw [show nat (nI j) = j from nI_clamp (by omega)] at hq
    refine J_aload_n (i := 0) (n := 12) dX6_feed_11 rfl rfl rfl ?_
    refine T_getO (k := 4) (n := 15) wk_X6 dX6_feed_12 wf_X6_33 (by decide) (by first | assumption | decide) rfl rfl ?_
    refine T_getO (k := 0) (n := 18) wk_X4 dX6_feed_15 wf_X6_55 (by decide) (by first | assumption | decide) rfl rfl ?_
    refine J_astore_n (i := 2) (n := 19) (lv' := [(0, _), (1, _), (2, _)]) dX6_feed_18 rfl (by decide) rfl rfl ?_
    refine J_aload_n (i := 2) (n := 20) dX6_feed_19 rfl rfl rfl ?_
    refine T_getO (k := 1) (n := 23) wk_X3 dX6_feed_20 wf_X6_59 (by decide) (by first | assumption | decide) rfl rfl ?_
    rw [hl]
    refine J_sipush (n := 26) dX6_feed_23 kS_160 rfl ?_
    refine J_icmp_lt (tgt := 32) (n := 29) dX6_feed_26 (by decide) rfl (fun c_26 => ?_) (fun c_26 => ?_)
    · rw [nI_ltI (by omega) (by omega)] at c_26
      rw [if_neg (by omega)] at hq
      refine J_eta 3 0 ?_
      refine J_aload_n (i := 2) (n := 33) dX6_feed_32 rfl rfl rfl ?_
      refine T_get (k := 0) (n := 36) wk_X3 dX6_feed_33 wf_X6_65 (by decide) (by first | assumption | decide) rfl rfl ?_
      refine J_aload_n (i := 2) (n := 37) dX6_feed_36 rfl rfl rfl ?_
      refine T_get (k := 1) (n := 40) wk_X3 dX6_feed_37 wf_X6_59 (by decide) (by first | assumption | decide) rfl rfl ?_
      rw [hl]
      refine J_iload_n (i := 1) (n := 41) dX6_feed_40 rfl rfl rfl ?_
      refine J_i2b (n := 42) dX6_feed_41 rfl ?_
      rw [by_all j (by omega)]
      refine T_bast (n := 43) dX6_feed_42 (by first | assumption | decide) (vp_in_nI (by omega) (by decide)) rfl ?_
      rw [by_all j (by omega), nI_clamp (by omega)]
      have hw1 : (∀ q, q < S.2.2.2.1.2 + 1 → (gs_w (σ 3 0) 0 (upd ((σ 3 0).1 0) S.2.2.2.1.2 (nI j))).1 0 q = nI ((fun q => if q = S.2.2.2.1.2 then j else S.2.2.2.1.1 q) q)) ∧ (gs_w (σ 3 0) 0 (upd ((σ 3 0).1 0) S.2.2.2.1.2 (nI j))).2.1 1 = nI S.2.2.2.1.2 := by
        refine ⟨fun q hq1 => ?_, hl⟩
        by_cases e : q = S.2.2.2.1.2
        · subst e; simp [gs_w, va_up, upd]
        · simp [gs_w, va_up, upd, e]; exact ht q (by omega)
      generalize gs_w (σ 3 0) 0 (upd ((σ 3 0).1 0) S.2.2.2.1.2 (nI j)) = w1 at hw1 ⊢
      refine J_aload_n (i := 2) (n := 44) dX6_feed_43 rfl rfl rfl ?_
      refine J_dup (n := 45) dX6_feed_44 rfl rfl ?_
      refine T_get (k := 1) (n := 48) wk_X3 dX6_feed_45 wf_X6_59 (by decide) (by first | assumption | decide) rfl rfl ?_
      refine J_iconst (n := 49) dX6_feed_48 kI_1 rfl ?_
      refine J_iadd (n := 50) dX6_feed_49 rfl ?_
      rw [hw1.2, nI_add]
      refine T_putI (k := 1) (n := 53) wk_X3 dX6_feed_50 wf_X6_59 (by decide) (by first | assumption | decide) (kN_i _) rfl (Nat.le_of_ble_eq_true rfl) rfl rfl ?_
      refine J_aload_n (i := 2) (n := 54) dX6_feed_53 rfl rfl rfl ?_
      refine T_get (k := 1) (n := 57) wk_X3 dX6_feed_54 wf_X6_59 (by decide) (by first | assumption | decide) rfl rfl ?_
      refine J_iret dX6_feed_57 rfl (kN_i _) ?_
      rw [show (gs_f w1 1 (nI (S.2.2.2.1.2 + 1))).2.1 1 = nI (S.2.2.2.1.2 + 1) from by simp [gs_f, upd]]
      exact hq _ (hc.tape ⟨hw1.1, by simp [gs_f, upd]⟩) (gs_neC (by decide))
    · rw [nI_ltI (by omega) (by omega)] at c_26
      refine J_bipush (n := 31) dX6_feed_29 kB_m3 rfl ?_
      refine J_iret dX6_feed_31 rfl (kN_i _) ?_
      rw [if_pos (by omega)] at hq
      exact hq σ hc rfl
  · refine J_iconst (n := 10) dX6_feed_9 kI_m1 rfl ?_
    refine J_iret dX6_feed_10 rfl (kN_i _) ?_
    rw [nb_0] at c_6
    unfold sp_feed at hq
    rw [c_6, if_neg (by decide)] at hq
    exact hq σ hc rfl

set_option maxHeartbeats 4000000 in
set_option maxRecDepth 100000 in
theorem c_G_end {G : gx_G} {σ : gs_S} {Q : Option Value → gx_Hp → Prop} {S : pS} (d : Nat) (v : Int32) (hS : SOk S) (hc : cR σ S) (hq : ∀ τ, cR τ (sp_end S v).2 → τ 7 0 = σ 7 0 → Q (some (.int (sp_end S v).1)) (hp G τ)) : gx_K G yX6_end mX6_end (d + 12) 0 0 [.ref (gs_a G 6 0 0), .int v] (hp G σ) Q := by
  obtain ⟨ht, hl⟩ := hc.2.2.1
  have h160 := hS.t
  refine gx_K.of' (lv := [(0, _), (1, _)]) (by decide) rfl (by decide) (Nat.le_of_ble_eq_true rfl) rfl ?_
  refine J_aload_n (i := 0) (n := 1) dX6_end_0 rfl rfl rfl ?_
  refine T_getO (k := 4) (n := 4) wk_X6 dX6_end_1 wf_X6_33 (by decide) (by first | assumption | decide) rfl rfl ?_
  refine T_getO (k := 0) (n := 7) wk_X4 dX6_end_4 wf_X6_55 (by decide) (by first | assumption | decide) rfl rfl ?_
  refine J_astore_n (i := 2) (n := 8) (lv' := [(0, _), (1, _), (2, _)]) dX6_end_7 rfl (by decide) rfl rfl ?_
  refine J_iload_n (i := 1) (n := 9) dX6_end_8 rfl rfl rfl ?_
  refine J_aload_n (i := 2) (n := 10) dX6_end_9 rfl rfl rfl ?_
  refine T_getO (k := 1) (n := 13) wk_X3 dX6_end_10 wf_X6_59 (by decide) (by first | assumption | decide) rfl rfl ?_
  rw [hl]
  refine J_callSr (n := 16) wS_X6_isWithin (c_isWithin (d + 11) v S.2.2.2.1.2 ⟨rfl, rfl⟩) dX6_end_13 wm_X6_51 wT_X6_isWithin rfl rfl (Nat.le_of_ble_eq_true rfl) rfl ?_
  refine J_if_ne (tgt := 21) (n := 19) dX6_end_16 (by decide) rfl (fun c_16 => ?_) (fun c_16 => ?_)
  · rw [nb_t] at c_16
    unfold sp_end at hq
    rw [if_pos c_16] at hq
    obtain ⟨j, hj, rfl⟩ := ix_of c_16 (by omega)
    rw [show nat (nI j) = j from nI_clamp (by omega)] at hq
    refine J_aload_n (i := 2) (n := 22) dX6_end_21 rfl rfl rfl ?_
    refine T_getO (k := 1) (n := 25) wk_X3 dX6_end_22 wf_X6_59 (by decide) (by first | assumption | decide) rfl rfl ?_
    rw [hl]
    refine J_eta 3 0 ?_
    refine J_istore_n (i := 3) (n := 26) (lv' := [(0, _), (1, _), (2, _), (3, _)]) dX6_end_25 rfl (by decide) rfl rfl ?_
    refine J_aload_n (i := 2) (n := 27) dX6_end_26 rfl rfl rfl ?_
    refine J_iload_n (i := 1) (n := 28) dX6_end_27 rfl rfl rfl ?_
    refine T_putI (k := 1) (n := 31) wk_X3 dX6_end_28 wf_X6_59 (by decide) (by first | assumption | decide) (kN_i _) rfl (Nat.le_of_ble_eq_true rfl) rfl rfl ?_
    refine J_iload_n (i := 3) (n := 32) dX6_end_31 rfl rfl rfl ?_
    refine J_iret dX6_end_32 rfl (kN_i _) ?_
    exact hq _ (hc.tape ⟨fun q hq1 => ht q (by dsimp only at hq1; omega), by simp [gs_f, upd]⟩) (gs_neC (by decide))
  · refine J_iconst (n := 20) dX6_end_19 kI_m1 rfl ?_
    refine J_iret dX6_end_20 rfl (kN_i _) ?_
    rw [nb_0] at c_16
    unfold sp_end at hq
    rw [c_16, if_neg (by decide)] at hq
    exact hq σ hc rfl

set_option maxHeartbeats 4000000 in
set_option maxRecDepth 100000 in
theorem c_G_fault {G : gx_G} {σ : gs_S} {Q : Option Value → gx_Hp → Prop} {S : pS} (d : Nat) (hS : SOk S) (hc : cR σ S) (hq : ∀ τ, cR τ S → τ 7 0 = σ 7 0 → Q (some (.int (nI (S.2.2.2.2.1 0)))) (hp G τ)) : gx_K G yX6_fault mX6_fault (d + 12) 0 0 [.ref (gs_a G 6 0 0)] (hp G σ) Q := by
  refine gx_K.of' (lv := [(0, _)]) (by decide) rfl (by decide) (Nat.le_of_ble_eq_true rfl) rfl ?_
  refine J_aload_n (i := 0) (n := 1) dX6_fault_0 rfl rfl rfl ?_
  refine T_getO (k := 7) (n := 4) wk_X6 dX6_fault_1 wf_X6_76 (by decide) (by first | assumption | decide) rfl rfl ?_
  refine J_iret dX6_fault_4 rfl (kN_i _) ?_
  rw [hc.2.2.2.1.1]
  exact hq σ hc rfl

set_option maxHeartbeats 4000000 in
set_option maxRecDepth 100000 in
theorem c_G_torn {G : gx_G} {σ : gs_S} {Q : Option Value → gx_Hp → Prop} {S : pS} (d : Nat) (hS : SOk S) (hc : cR σ S) (hq : ∀ τ, cR τ S → τ 7 0 = σ 7 0 → Q (some (.int (nI (S.2.2.2.2.1 1)))) (hp G τ)) : gx_K G yX6_torn mX6_torn (d + 12) 0 0 [.ref (gs_a G 6 0 0)] (hp G σ) Q := by
  refine gx_K.of' (lv := [(0, _)]) (by decide) rfl (by decide) (Nat.le_of_ble_eq_true rfl) rfl ?_
  refine J_aload_n (i := 0) (n := 1) dX6_torn_0 rfl rfl rfl ?_
  refine T_getO (k := 8) (n := 4) wk_X6 dX6_torn_1 wf_X6_248 (by decide) (by first | assumption | decide) rfl rfl ?_
  refine J_iret dX6_torn_4 rfl (kN_i _) ?_
  rw [hc.2.2.2.1.2]
  exact hq σ hc rfl

set_option maxHeartbeats 4000000 in
set_option maxRecDepth 100000 in
theorem c_G_rule {G : gx_G} {σ : gs_S} {Q : Option Value → gx_Hp → Prop} {S : pS} (d : Nat) (w : Int32) (hS : SOk S) (hc : cR σ S) (hq : ∀ τ, cR τ S → τ 7 0 = σ 7 0 → Q (some (.int (sp_rule S w))) (hp G τ)) : gx_K G yX6_rule mX6_rule (d + 12) 0 0 [.ref (gs_a G 6 0 0), .int w] (hp G σ) Q := by
  obtain ⟨hw, hs⟩ := hc.1
  have hO := hS.1.1
  have h4 : S.1.1.2.2 6 ≤ 4 := hO.2.2.2.2.1
  have h6 : S.1.1.2.2 7 ≤ 6 := hO.2.2.2.2.2.1
  have hm11 : S.1.1.2.2 8 ≤ 11 := hO.2.2.2.2.2.2.1
  have hn9 : S.1.1.2.2 9 ≤ 9999 := hO.2.2.2.2.2.2.2
  have hd9 : S.1.1.2.2 10 ≤ 999 := hS.1.2.2.1
  have e6 := hw.2.2.2.2 6 (by decide) (by decide)
  have e7 := hw.2.2.2.2 7 (by decide) (by decide)
  have e8 := hw.2.2.2.2 8 (by decide) (by decide)
  have e9 := hw.2.2.2.2 9 (by decide) (by decide)
  have e10 := hw.2.2.2.2 10 (by decide) (by decide)
  refine gx_K.of' (lv := [(0, _), (1, _)]) (by decide) rfl (by decide) (Nat.le_of_ble_eq_true rfl) rfl ?_
  refine J_iload_n (i := 1) (n := 1) dX6_rule_0 rfl rfl rfl ?_
  by_cases e_1_0 : w = 0
  · rw [e_1_0]
    refine J_tableIn (off := 43) (tgt := 44) dX6_rule_1 (by decide) (by decide) (by decide) (by decide) ?_
    refine J_aload_n (i := 0) (n := 45) dX6_rule_44 rfl rfl rfl ?_
    refine T_getO (k := 0) (n := 48) wk_X6 dX6_rule_45 wf_X6_10 (by decide) (by first | assumption | decide) rfl rfl ?_
    refine T_getO (k := 6) (n := 51) wk_X5 dX6_rule_48 wf_X6_99 (by decide) (by first | assumption | decide) rfl rfl ?_
    refine J_iret dX6_rule_51 rfl (kN_i _) ?_
    unfold sp_rule at hq
    rw [if_pos e_1_0] at hq
    rw [e6]
    exact hq σ hc rfl
  by_cases e_1_1 : w = 1
  · rw [e_1_1]
    refine J_tableIn (off := 51) (tgt := 52) dX6_rule_1 (by decide) (by decide) (by decide) (by decide) ?_
    refine J_aload_n (i := 0) (n := 53) dX6_rule_52 rfl rfl rfl ?_
    refine T_getO (k := 0) (n := 56) wk_X6 dX6_rule_53 wf_X6_10 (by decide) (by first | assumption | decide) rfl rfl ?_
    refine T_getO (k := 10) (n := 59) wk_X5 dX6_rule_56 wf_X6_102 (by decide) (by first | assumption | decide) rfl rfl ?_
    refine J_iret dX6_rule_59 rfl (kN_i _) ?_
    unfold sp_rule at hq
    rw [if_neg e_1_0, if_pos e_1_1] at hq
    rw [e10]
    exact hq σ hc rfl
  by_cases e_1_2 : w = 2
  · rw [e_1_2]
    refine J_tableIn (off := 59) (tgt := 60) dX6_rule_1 (by decide) (by decide) (by decide) (by decide) ?_
    refine J_aload_n (i := 0) (n := 61) dX6_rule_60 rfl rfl rfl ?_
    refine T_getO (k := 0) (n := 64) wk_X6 dX6_rule_61 wf_X6_10 (by decide) (by first | assumption | decide) rfl rfl ?_
    refine T_getO (k := 8) (n := 67) wk_X5 dX6_rule_64 wf_X6_105 (by decide) (by first | assumption | decide) rfl rfl ?_
    refine J_iret dX6_rule_67 rfl (kN_i _) ?_
    unfold sp_rule at hq
    rw [if_neg e_1_0, if_neg e_1_1, if_pos e_1_2] at hq
    rw [e8]
    exact hq σ hc rfl
  by_cases e_1_3 : w = 3
  · rw [e_1_3]
    refine J_tableIn (off := 67) (tgt := 68) dX6_rule_1 (by decide) (by decide) (by decide) (by decide) ?_
    refine J_aload_n (i := 0) (n := 69) dX6_rule_68 rfl rfl rfl ?_
    refine T_getO (k := 0) (n := 72) wk_X6 dX6_rule_69 wf_X6_10 (by decide) (by first | assumption | decide) rfl rfl ?_
    refine T_getO (k := 9) (n := 75) wk_X5 dX6_rule_72 wf_X6_108 (by decide) (by first | assumption | decide) rfl rfl ?_
    refine J_iret dX6_rule_75 rfl (kN_i _) ?_
    unfold sp_rule at hq
    rw [if_neg e_1_0, if_neg e_1_1, if_neg e_1_2, if_pos e_1_3] at hq
    rw [e9]
    exact hq σ hc rfl
  by_cases e_1_4 : w = 4
  · rw [e_1_4]
    refine J_tableIn (off := 75) (tgt := 76) dX6_rule_1 (by decide) (by decide) (by decide) (by decide) ?_
    refine J_aload_n (i := 0) (n := 77) dX6_rule_76 rfl rfl rfl ?_
    refine T_getO (k := 0) (n := 80) wk_X6 dX6_rule_77 wf_X6_10 (by decide) (by first | assumption | decide) rfl rfl ?_
    refine T_getO (k := 5) (n := 83) wk_X5 dX6_rule_80 wf_X6_111 (by decide) (by first | assumption | decide) rfl rfl ?_
    refine J_iret dX6_rule_83 rfl (kN_i _) ?_
    unfold sp_rule at hq
    rw [if_neg e_1_0, if_neg e_1_1, if_neg e_1_2, if_neg e_1_3, if_pos e_1_4] at hq
    rw [hw.2.2.2.1]
    exact hq σ hc rfl
  by_cases e_1_5 : w = 5
  · rw [e_1_5]
    refine J_tableIn (off := 83) (tgt := 84) dX6_rule_1 (by decide) (by decide) (by decide) (by decide) ?_
    refine J_aload_n (i := 0) (n := 85) dX6_rule_84 rfl rfl rfl ?_
    refine T_getO (k := 0) (n := 88) wk_X6 dX6_rule_85 wf_X6_10 (by decide) (by first | assumption | decide) rfl rfl ?_
    refine J_callVr (n := 91) wS_X5_coldOnes (c_W_coldOnes (d + 9) (by decide) hw hO ⟨rfl, rfl⟩) dX6_rule_88 wm_X6_114 ⟨wM_X5_coldOnes, wV_X5_coldOnes⟩ rfl (T_recv (by decide) (by first | assumption | decide)) rfl rfl (Nat.le_of_ble_eq_true rfl) rfl ?_
    refine J_iret dX6_rule_91 rfl (kN_i _) ?_
    unfold sp_rule at hq
    rw [if_neg e_1_0, if_neg e_1_1, if_neg e_1_2, if_neg e_1_3, if_neg e_1_4, if_pos e_1_5] at hq
    exact hq σ hc rfl
  by_cases e_1_6 : w = 6
  · rw [e_1_6]
    refine J_tableIn (off := 91) (tgt := 92) dX6_rule_1 (by decide) (by decide) (by decide) (by decide) ?_
    refine J_aload_n (i := 0) (n := 93) dX6_rule_92 rfl rfl rfl ?_
    refine T_getO (k := 0) (n := 96) wk_X6 dX6_rule_93 wf_X6_10 (by decide) (by first | assumption | decide) rfl rfl ?_
    refine T_getO (k := 7) (n := 99) wk_X5 dX6_rule_96 wf_X6_118 (by decide) (by first | assumption | decide) rfl rfl ?_
    refine J_iret dX6_rule_99 rfl (kN_i _) ?_
    unfold sp_rule at hq
    rw [if_neg e_1_0, if_neg e_1_1, if_neg e_1_2, if_neg e_1_3, if_neg e_1_4, if_neg e_1_5, if_pos e_1_6] at hq
    rw [e7]
    exact hq σ hc rfl
  refine J_tableOut (tgt := 100) dX6_rule_1 (by have q_0 := lv_neT (a := 0) e_1_0 rfl; have q_1 := lv_neT (a := 1) e_1_1 rfl; have q_2 := lv_neT (a := 2) e_1_2 rfl; have q_3 := lv_neT (a := 3) e_1_3 rfl; have q_4 := lv_neT (a := 4) e_1_4 rfl; have q_5 := lv_neT (a := 5) e_1_5 rfl; have q_6 := lv_neT (a := 6) e_1_6 rfl; omega) (by decide) ?_
  refine J_iconst (n := 101) dX6_rule_100 kI_m1 rfl ?_
  refine J_iret dX6_rule_101 rfl (kN_i _) ?_
  unfold sp_rule at hq
  rw [if_neg e_1_0, if_neg e_1_1, if_neg e_1_2, if_neg e_1_3, if_neg e_1_4, if_neg e_1_5, if_neg e_1_6] at hq
  exact hq σ hc rfl

set_option maxHeartbeats 4000000 in
set_option maxRecDepth 100000 in
theorem c_G_glove {G : gx_G} {σ : gs_S} {Q : Option Value → gx_Hp → Prop} {S : pS} (d : Nat) (g w : Int32) (hS : SOk S) (hc : cR σ S) (hq : ∀ τ, cR τ S → τ 7 0 = σ 7 0 → Q (some (.int (sp_glove S g w))) (hp G τ)) : gx_K G yX6_glove mX6_glove (d + 12) 0 0 [.ref (gs_a G 6 0 0), .int g, .int w] (hp G σ) Q := by
  obtain ⟨hw, hs⟩ := hc.1
  have hO := hS.1.1
  have h4 : S.1.1.2.2 6 ≤ 4 := hO.2.2.2.2.1
  have h6 : S.1.1.2.2 7 ≤ 6 := hO.2.2.2.2.2.1
  have hm11 : S.1.1.2.2 8 ≤ 11 := hO.2.2.2.2.2.2.1
  have hn9 : S.1.1.2.2 9 ≤ 9999 := hO.2.2.2.2.2.2.2
  have hd9 : S.1.1.2.2 10 ≤ 999 := hS.1.2.2.1
  have e6 := hw.2.2.2.2 6 (by decide) (by decide)
  have e7 := hw.2.2.2.2 7 (by decide) (by decide)
  have e8 := hw.2.2.2.2 8 (by decide) (by decide)
  have e9 := hw.2.2.2.2 9 (by decide) (by decide)
  have e10 := hw.2.2.2.2 10 (by decide) (by decide)
  refine gx_K.of' (lv := [(0, _), (1, _), (2, _)]) (by decide) rfl (by decide) (Nat.le_of_ble_eq_true rfl) rfl ?_
  refine J_aload_n (i := 0) (n := 1) dX6_glove_0 rfl rfl rfl ?_
  refine J_iload_n (i := 1) (n := 2) dX6_glove_1 rfl rfl rfl ?_
  refine J_callVr (n := 5) wS_X6_isGlove (c_isGlove (d + 10) g hw hO ⟨rfl, rfl⟩) dX6_glove_2 wm_X6_121 ⟨wM_X6_isGlove, wV_X6_isGlove⟩ rfl (T_recv (by decide) (by first | assumption | decide)) rfl rfl (Nat.le_of_ble_eq_true rfl) rfl ?_
  refine J_if_ne (tgt := 10) (n := 8) dX6_glove_5 (by decide) rfl (fun c_5 => ?_) (fun c_5 => ?_)
  · rw [nb_t] at c_5
    unfold sp_glove at hq
    rw [if_pos (show isG S g = true from c_5)] at hq
    obtain ⟨j, hj, rfl⟩ := isG_of (S := S) c_5 hO
    rw [show nat (nI j) = j from nI_clamp (by omega)] at hq
    obtain ⟨k3, a11, w20⟩ := hO.2.1 j hj
    obtain ⟨f1, f2, f3⟩ := hw.2.1 j hj
    refine J_iload_n (i := 2) (n := 11) dX6_glove_10 rfl rfl rfl ?_
    by_cases e_11_0 : w = 0
    · rw [e_11_0]
      refine J_tableIn (off := 37) (tgt := 48) dX6_glove_11 (by decide) (by decide) (by decide) (by decide) ?_
      refine J_aload_n (i := 0) (n := 49) dX6_glove_48 rfl rfl rfl ?_
      refine T_getO (k := 0) (n := 52) wk_X6 dX6_glove_49 wf_X6_10 (by decide) (by first | assumption | decide) rfl rfl ?_
      refine J_iload_n (i := 1) (n := 53) dX6_glove_52 rfl rfl rfl ?_
      refine J_iload_n (i := 2) (n := 54) dX6_glove_53 rfl rfl rfl ?_
      refine J_callVr (n := 57) wS_X5_partOf (c_W_partOf (d + 11) (k := 0) (by decide) hw hO hj (by decide) ⟨rfl, rfl⟩) dX6_glove_54 wm_X6_125 ⟨wM_X5_partOf, wV_X5_partOf⟩ rfl (T_recv (by decide) (by first | assumption | decide)) rfl rfl (Nat.le_of_ble_eq_true rfl) rfl ?_
      refine J_iret dX6_glove_57 rfl (kN_i _) ?_
      first
      | (rw [if_pos e_11_0] at hq; exact hq σ hc rfl)
      | (rw [if_neg e_11_0, if_pos e_11_1] at hq; exact hq σ hc rfl)
      | (rw [if_neg e_11_0, if_neg e_11_1, if_pos e_11_2] at hq; exact hq σ hc rfl)
    by_cases e_11_1 : w = 1
    · rw [e_11_1]
      refine J_tableIn (off := 37) (tgt := 48) dX6_glove_11 (by decide) (by decide) (by decide) (by decide) ?_
      refine J_aload_n (i := 0) (n := 49) dX6_glove_48 rfl rfl rfl ?_
      refine T_getO (k := 0) (n := 52) wk_X6 dX6_glove_49 wf_X6_10 (by decide) (by first | assumption | decide) rfl rfl ?_
      refine J_iload_n (i := 1) (n := 53) dX6_glove_52 rfl rfl rfl ?_
      refine J_iload_n (i := 2) (n := 54) dX6_glove_53 rfl rfl rfl ?_
      refine J_callVr (n := 57) wS_X5_partOf (c_W_partOf (d + 11) (k := 1) (by decide) hw hO hj (by decide) ⟨rfl, rfl⟩) dX6_glove_54 wm_X6_125 ⟨wM_X5_partOf, wV_X5_partOf⟩ rfl (T_recv (by decide) (by first | assumption | decide)) rfl rfl (Nat.le_of_ble_eq_true rfl) rfl ?_
      refine J_iret dX6_glove_57 rfl (kN_i _) ?_
      first
      | (rw [if_pos e_11_0] at hq; exact hq σ hc rfl)
      | (rw [if_neg e_11_0, if_pos e_11_1] at hq; exact hq σ hc rfl)
      | (rw [if_neg e_11_0, if_neg e_11_1, if_pos e_11_2] at hq; exact hq σ hc rfl)
    by_cases e_11_2 : w = 2
    · rw [e_11_2]
      refine J_tableIn (off := 37) (tgt := 48) dX6_glove_11 (by decide) (by decide) (by decide) (by decide) ?_
      refine J_aload_n (i := 0) (n := 49) dX6_glove_48 rfl rfl rfl ?_
      refine T_getO (k := 0) (n := 52) wk_X6 dX6_glove_49 wf_X6_10 (by decide) (by first | assumption | decide) rfl rfl ?_
      refine J_iload_n (i := 1) (n := 53) dX6_glove_52 rfl rfl rfl ?_
      refine J_iload_n (i := 2) (n := 54) dX6_glove_53 rfl rfl rfl ?_
      refine J_callVr (n := 57) wS_X5_partOf (c_W_partOf (d + 11) (k := 2) (by decide) hw hO hj (by decide) ⟨rfl, rfl⟩) dX6_glove_54 wm_X6_125 ⟨wM_X5_partOf, wV_X5_partOf⟩ rfl (T_recv (by decide) (by first | assumption | decide)) rfl rfl (Nat.le_of_ble_eq_true rfl) rfl ?_
      refine J_iret dX6_glove_57 rfl (kN_i _) ?_
      first
      | (rw [if_pos e_11_0] at hq; exact hq σ hc rfl)
      | (rw [if_neg e_11_0, if_pos e_11_1] at hq; exact hq σ hc rfl)
      | (rw [if_neg e_11_0, if_neg e_11_1, if_pos e_11_2] at hq; exact hq σ hc rfl)
    by_cases e_11_3 : w = 3
    · rw [e_11_3]
      refine J_tableIn (off := 47) (tgt := 58) dX6_glove_11 (by decide) (by decide) (by decide) (by decide) ?_
      refine J_aload_n (i := 0) (n := 59) dX6_glove_58 rfl rfl rfl ?_
      refine T_getO (k := 0) (n := 62) wk_X6 dX6_glove_59 wf_X6_10 (by decide) (by first | assumption | decide) rfl rfl ?_
      refine J_iload_n (i := 1) (n := 63) dX6_glove_62 rfl rfl rfl ?_
      refine J_callVr (n := 66) wS_X5_isPaired (c_W_isPaired (d + 11) (by decide) hw (by omega) ⟨rfl, rfl⟩) dX6_glove_63 wm_X6_129 ⟨wM_X5_isPaired, wV_X5_isPaired⟩ rfl (T_recv (by decide) (by first | assumption | decide)) rfl rfl (Nat.le_of_ble_eq_true rfl) rfl ?_
      refine J_if_eq (tgt := 73) (n := 69) dX6_glove_66 (by decide) rfl (fun c_66 => ?_) (fun c_66 => ?_)
      · refine J_iconst (n := 74) dX6_glove_73 kI_0 rfl ?_
        refine J_iret dX6_glove_74 rfl (kN_i _) ?_
        rw [if_neg e_11_0, if_neg e_11_1, if_neg e_11_2, if_pos e_11_3] at hq
        first
        | (rw [nb_0] at c_66; rw [c_66] at hq; exact hq σ hc rfl)
        | (rw [nb_t] at c_66; rw [c_66] at hq; exact hq σ hc rfl)
      · refine J_iconst (n := 70) dX6_glove_69 kI_1 rfl ?_
        refine J_goto (tgt := 74) dX6_glove_70 (by decide) ?_
        refine J_iret dX6_glove_74 rfl (kN_i _) ?_
        rw [if_neg e_11_0, if_neg e_11_1, if_neg e_11_2, if_pos e_11_3] at hq
        first
        | (rw [nb_0] at c_66; rw [c_66] at hq; exact hq σ hc rfl)
        | (rw [nb_t] at c_66; rw [c_66] at hq; exact hq σ hc rfl)
    by_cases e_11_4 : w = 4
    · rw [e_11_4]
      refine J_tableIn (off := 64) (tgt := 75) dX6_glove_11 (by decide) (by decide) (by decide) (by decide) ?_
      refine J_aload_n (i := 0) (n := 76) dX6_glove_75 rfl rfl rfl ?_
      refine T_getO (k := 0) (n := 79) wk_X6 dX6_glove_76 wf_X6_10 (by decide) (by first | assumption | decide) rfl rfl ?_
      refine T_getO (k := 2) (n := 82) wk_X5 dX6_glove_79 wf_X6_132 (by decide) (by first | assumption | decide) rfl rfl ?_
      refine J_iload_n (i := 1) (n := 83) dX6_glove_82 rfl rfl rfl ?_
      refine T_ialdO (c := 5) (k := 2) (N := 4) (n := 84) dX6_glove_83 (by decide) (by first | assumption | decide) rfl (vp_in_nI (by omega) (by decide)) rfl ?_
      rw [nI_clamp (by omega), f2]
      refine J_aload_n (i := 0) (n := 85) dX6_glove_84 rfl rfl rfl ?_
      refine T_getO (k := 0) (n := 88) wk_X6 dX6_glove_85 wf_X6_10 (by decide) (by first | assumption | decide) rfl rfl ?_
      refine T_getO (k := 8) (n := 91) wk_X5 dX6_glove_88 wf_X6_105 (by decide) (by first | assumption | decide) rfl rfl ?_
      rw [e8]
      refine J_callSr (n := 94) wS_X6_farOf (c_farOf (d + 10) (by omega) (by omega) ⟨rfl, rfl⟩) dX6_glove_91 wm_X6_136 wT_X6_farOf rfl rfl (Nat.le_of_ble_eq_true rfl) rfl ?_
      refine J_iret dX6_glove_94 rfl (kN_i _) ?_
      rw [if_neg e_11_0, if_neg e_11_1, if_neg e_11_2, if_neg e_11_3, if_pos e_11_4] at hq
      exact hq σ hc rfl
    by_cases e_11_5 : w = 5
    · rw [e_11_5]
      refine J_tableIn (off := 84) (tgt := 95) dX6_glove_11 (by decide) (by decide) (by decide) (by decide) ?_
      refine J_aload_n (i := 0) (n := 96) dX6_glove_95 rfl rfl rfl ?_
      refine T_getO (k := 0) (n := 99) wk_X6 dX6_glove_96 wf_X6_10 (by decide) (by first | assumption | decide) rfl rfl ?_
      refine J_iload_n (i := 1) (n := 100) dX6_glove_99 rfl rfl rfl ?_
      refine J_callVr (n := 103) wS_X5_stepOf (c_W_stepOf (d + 9) (by decide) hw hO hj ⟨rfl, rfl⟩) dX6_glove_100 wm_X6_139 ⟨wM_X5_stepOf, wV_X5_stepOf⟩ rfl (T_recv (by decide) (by first | assumption | decide)) rfl rfl (Nat.le_of_ble_eq_true rfl) rfl ?_
      refine J_iret dX6_glove_103 rfl (kN_i _) ?_
      rw [if_neg e_11_0, if_neg e_11_1, if_neg e_11_2, if_neg e_11_3, if_neg e_11_4, if_pos e_11_5] at hq
      exact hq σ hc rfl
    refine J_tableOut (tgt := 104) dX6_glove_11 (by have q_0 := lv_neT (a := 0) e_11_0 rfl; have q_1 := lv_neT (a := 1) e_11_1 rfl; have q_2 := lv_neT (a := 2) e_11_2 rfl; have q_3 := lv_neT (a := 3) e_11_3 rfl; have q_4 := lv_neT (a := 4) e_11_4 rfl; have q_5 := lv_neT (a := 5) e_11_5 rfl; omega) (by decide) ?_
    refine J_iconst (n := 105) dX6_glove_104 kI_m1 rfl ?_
    refine J_iret dX6_glove_105 rfl (kN_i _) ?_
    rw [if_neg e_11_0, if_neg e_11_1, if_neg e_11_2, if_neg e_11_3, if_neg e_11_4, if_neg e_11_5] at hq
    exact hq σ hc rfl
  · refine J_iconst (n := 9) dX6_glove_8 kI_m1 rfl ?_
    refine J_iret dX6_glove_9 rfl (kN_i _) ?_
    rw [nb_0] at c_5
    unfold sp_glove at hq
    rw [if_neg (by rw [show isG S g = false from c_5]; decide)] at hq
    exact hq σ hc rfl

