theorem jds_lt {f : Nat → Nat} {b c : Nat} (hf : ∀ i, f i < c) (hb : b < c) (n : Nat) : (jds f b n).2 < c := by
  induction n with
  | zero => exact hb
  | succ n ih => exact jd_lt ih (hf n)
theorem swI_lt {f : Nat → Nat → Nat} {c i : Nat} {r : Option Nat × Nat} (hf : ∀ i j, f i j < c) (hr : r.2 < c) (m : Nat) : (swI f i r m).2 < c := by
  induction m with
  | zero => exact hr
  | succ m ih => exact jd_lt ih (hf _ _)
theorem swO_lt {f : Nat → Nat → Nat} {b c k : Nat} (hf : ∀ i j, f i j < c) (hb : b < c) (n : Nat) : (swO f k b n).2 < c := by
  induction n with
  | zero => exact hb
  | succ n ih => exact swI_lt hf ih _
/-- what the class makes of its best at the end -/
theorem ad_end {r : Option Nat × Nat} {w : Int32} {n0 : Nat} (hc : ∀ c, r.1 = some c → c < 2 ^ 31) : (cd r.1 = -4 → ad r w = cd r.1) ∧ (¬ cd r.1 = -4 → w = 0 → ad r w = cd r.1) ∧ (¬ cd r.1 = -4 → ¬ w = 0 → ad r w = nI (n0 + r.2) - nI n0) := by
  obtain ⟨a, b⟩ := r
  cases a with
  | none => exact ⟨fun _ => rfl, fun q => absurd rfl q, fun q => absurd rfl q⟩
  | some c =>
    refine ⟨fun q => absurd q (cd_ne (hc c rfl)), fun _ q => ?_, fun _ q => ?_⟩
    · show (if w = 0 then nI c else nI b) = nI c
      rw [if_pos q]
    · show (if w = 0 then nI c else nI b) = nI (n0 + b) - nI n0
      rw [if_neg q, pk_sub (by omega)]
      congr 1
      omega
theorem jds_code {f : Nat → Nat} {b : Nat} (n : Nat) : ∀ c, (jds f b n).1 = some c → c < n := by
  induction n with
  | zero => intro c h; cases h
  | succ n ih =>
    intro c h
    have h : (jd (jds f b n) n (f n)).1 = some c := h
    unfold jd at h
    split at h
    · cases h; omega
    · have := ih c h; omega
theorem swI_code {f : Nat → Nat → Nat} {i : Nat} {r : Option Nat × Nat} (hr : ∀ c, r.1 = some c → c < 1000) (m : Nat) (hm : i + m < 50) : ∀ c, (swI f i r m).1 = some c → c < 1000 := by
  induction m with
  | zero => exact hr
  | succ m ih =>
    intro c h
    have h : (jd (swI f i r m) (10 * i + (i + 1 + m)) (f i (i + 1 + m))).1 = some c := h
    unfold jd at h
    split at h
    · cases h; omega
    · exact ih (by omega) c h
theorem swO_code {f : Nat → Nat → Nat} {b k : Nat} (hk : k ≤ 6) (n : Nat) (hn : n ≤ k) : ∀ c, (swO f k b n).1 = some c → c < 1000 := by
  induction n with
  | zero => intro c h; cases h
  | succ n ih => exact swI_code (ih (by omega)) _ (by omega)
set_option maxHeartbeats 4000000 in
set_option maxRecDepth 100000 in
theorem c_G_mostNamedPart {G : gx_G} {σ : gs_S} {Q : Option Value → gx_Hp → Prop} {p : pw} {t : gs_Ob} (d : Nat) {j k n B : Nat} (w : Int32) (hw0 : wR (σ 5 0) p) (hO : pOk p) (hj : j < p.2.2 6) (hk : (k = 0 ∧ B = 3) ∨ (k = 1 ∧ B = 11)) (hn : p.2.2 10 + n < 2 ^ 30) (hq : ∀ t1, Q (some (.int (aq (jqs (fun z => nb p (pw_a p (k + 1) j z) n) (B + 1)) w))) (hp G (gs_set σ 5 1 t1))) : gx_K G yX6_mostNamedPart mX6_mostNamedPart (d + 6) 0 0 [.ref (gs_a G 6 0 0), .int (nI j), .int (nI k), .int (nI n), .int w] (hp G (gs_set σ 5 1 t)) Q := by
  have h4 : p.2.2 6 ≤ 4 := hO.2.2.2.2.1
  have hn9 : p.2.2 9 ≤ 9999 := hO.2.2.2.2.2.2.2
  have e9 := hw0.2.2.2.2 9 (by decide) (by decide)
  have hfl : ∀ e, (fun z => nb p (pw_a p (k + 1) j z) n) e < 10000 := fun e => nb_lt (q := pw_a p (k + 1) j e) hn9 n
  have hgr : gr (nI k) = nI B := by rcases hk with ⟨rfl, rfl⟩ | ⟨rfl, rfl⟩ <;> rfl
  have hB : B ≤ 11 := by omega
  have loop : ∀ u e t0, B + 1 - e < u → e ≤ B + 1 → gx_J G mX6_mostNamedPart (d + 6) 0 0 Q 9 [(0, .ref (gs_a G 6 0 0)), (1, .int (nI j)), (2, .int (nI k)), (3, .int (nI n)), (4, .int w), (5, .int (cm (jqs (fun z => nb p (pw_a p (k + 1) j z) n) e) (p.2.2 9))), (6, .int (cb (jqs (fun z => nb p (pw_a p (k + 1) j z) n) e))), (7, .int (nI e))] [] (hp G (gs_set σ 5 1 t0)) := by
    intro u
    induction u with
    | zero => intros; exact absurd (by assumption) (Nat.not_lt_zero _)
    | succ u ih =>
      intro e t0 hu he
      refine J_iload (i := 7) (n := 11) dX6_mostNamedPart_9 rfl rfl ?_
      refine J_iload_n (i := 2) (n := 12) dX6_mostNamedPart_11 rfl rfl rfl ?_
      refine J_callSr (n := 15) wS_X6_greatestOf (c_greatestOf (d + 5) (nI k) ⟨rfl, rfl⟩) dX6_mostNamedPart_12 wm_X6_264 wT_X6_greatestOf rfl rfl (Nat.le_of_ble_eq_true rfl) rfl ?_
      rw [hgr]
      refine J_icmp_gt (tgt := 79) (n := 18) dX6_mostNamedPart_15 (by decide) rfl (fun c_15 => ?_) (fun c_15 => ?_)
      · refine J_iload (i := 4) (n := 81) dX6_mostNamedPart_79 rfl rfl ?_
        refine J_if_ne (tgt := 89) (n := 84) dX6_mostNamedPart_81 (by decide) rfl (fun c_81 => ?_) (fun c_81 => ?_)
        · refine J_iload (i := 5) (n := 91) dX6_mostNamedPart_89 rfl rfl ?_
          refine J_aload_n (i := 0) (n := 92) dX6_mostNamedPart_91 rfl rfl rfl ?_
          refine T_getO (k := 0) (n := 95) wk_X6 dX6_mostNamedPart_92 wf_X6_10 (by decide) (by first | assumption | decide) rfl rfl ?_
          refine T_getO (k := 9) (n := 98) wk_X5 dX6_mostNamedPart_95 wf_X6_108 (by decide) (by first | assumption | decide) rfl rfl ?_
          refine J_isub (n := 99) dX6_mostNamedPart_98 rfl ?_
          refine J_iret dX6_mostNamedPart_99 rfl (kN_i _) ?_
          rw [nI_ltI (by omega) (by omega)] at c_15
          have ee : e = B + 1 := by omega
          subst ee
          obtain ⟨z, hz⟩ := jqs_some (fun z => nb p (pw_a p (k + 1) j z) n) B
          have h0 := hq t0
          rw [hz] at h0 ⊢
          first
          | (rw [aq, if_pos c_81] at h0; exact h0)
          | (rw [aq, if_neg c_81] at h0
             rw [gs_neI (by decide : (0 : Nat) ≠ 1), e9, cm, pk_sub (by omega), show p.2.2 9 + z.2 - p.2.2 9 = z.2 by omega]
             exact h0)
        · refine J_iload (i := 6) (n := 86) dX6_mostNamedPart_84 rfl rfl ?_
          refine J_goto (tgt := 99) dX6_mostNamedPart_86 (by decide) ?_
          refine J_iret dX6_mostNamedPart_99 rfl (kN_i _) ?_
          rw [nI_ltI (by omega) (by omega)] at c_15
          have ee : e = B + 1 := by omega
          subst ee
          obtain ⟨z, hz⟩ := jqs_some (fun z => nb p (pw_a p (k + 1) j z) n) B
          have h0 := hq t0
          rw [hz] at h0 ⊢
          first
          | (rw [aq, if_pos c_81] at h0; exact h0)
          | (rw [aq, if_neg c_81] at h0
             rw [gs_neI (by decide : (0 : Nat) ≠ 1), e9, cm, pk_sub (by omega), show p.2.2 9 + z.2 - p.2.2 9 = z.2 by omega]
             exact h0)
      · rw [nI_ltI (by omega) (by omega)] at c_15
        refine J_aload_n (i := 0) (n := 19) dX6_mostNamedPart_18 rfl rfl rfl ?_
        refine T_getO (k := 2) (n := 22) wk_X6 dX6_mostNamedPart_19 wf_X6_23 (by decide) (by first | assumption | decide) rfl rfl ?_
        refine J_aload_n (i := 0) (n := 23) dX6_mostNamedPart_22 rfl rfl rfl ?_
        refine T_getO (k := 0) (n := 26) wk_X6 dX6_mostNamedPart_23 wf_X6_10 (by decide) (by first | assumption | decide) rfl rfl ?_
        refine J_callVx (n := 29) wS_X5_become (c_W_become (Q := fun r h => r = none ∧ ∃ t1, wR t1 p ∧ h = hp G (gs_set σ 5 1 t1)) (d + 4) (i := 1) (j := 0) (by decide) (by decide) (by decide) hw0 hO (fun t1 h1 => ⟨rfl, t1, h1, rfl⟩)) dX6_mostNamedPart_26 wm_X6_85 ⟨wM_X5_become, wV_X5_become⟩ rfl (T_recv (by decide) (by first | assumption | decide)) rfl rfl (Nat.le_of_ble_eq_true rfl) rfl (fun r h1 hq1 => ?_)
        obtain ⟨rfl, t1, hw1, rfl⟩ := hq1
        refine J_aload_n (i := 0) (n := 30) dX6_mostNamedPart_29 rfl rfl rfl ?_
        refine T_getO (k := 2) (n := 33) wk_X6 dX6_mostNamedPart_30 wf_X6_23 (by decide) (by first | assumption | decide) rfl rfl ?_
        refine J_iload_n (i := 1) (n := 34) dX6_mostNamedPart_33 rfl rfl rfl ?_
        refine J_iload_n (i := 2) (n := 35) dX6_mostNamedPart_34 rfl rfl rfl ?_
        refine J_iload (i := 7) (n := 37) dX6_mostNamedPart_35 rfl rfl ?_
        refine J_callVx (n := 40) wS_X5_putPart (c_W_putPart (Q := fun r h => r = none ∧ ∃ t3, wR t3 (pw_a p (k + 1) j e) ∧ h = hp G (gs_set σ 5 1 t3)) (d + 5) (i := 1) (by decide) hw1 (by omega) (by omega) (fun t3 h3 => ⟨rfl, t3, h3, rfl⟩)) dX6_mostNamedPart_37 wm_X6_162 ⟨wM_X5_putPart, wV_X5_putPart⟩ rfl (T_recv (by decide) (by first | assumption | decide)) rfl rfl (Nat.le_of_ble_eq_true rfl) rfl (fun r h1 hq1 => ?_)
        obtain ⟨rfl, t3, hw3, rfl⟩ := hq1
        refine J_aload_n (i := 0) (n := 41) dX6_mostNamedPart_40 rfl rfl rfl ?_
        refine T_getO (k := 2) (n := 44) wk_X6 dX6_mostNamedPart_41 wf_X6_23 (by decide) (by first | assumption | decide) rfl rfl ?_
        refine J_iload_n (i := 3) (n := 45) dX6_mostNamedPart_44 rfl rfl rfl ?_
        refine J_callVx (n := 48) wS_X5_passDays (c_W_passDays (Q := fun r h => r = none ∧ ∃ t2, wR t2 (pw_days (pw_a p (k + 1) j e) n) ∧ h = hp G (gs_set σ 5 1 t2)) (d) (i := 1) (by decide) hw3 (pw_a_ok hO (by omega)) hn (fun t2 h2 => ⟨rfl, t2, h2, rfl⟩)) dX6_mostNamedPart_45 wm_X6_170 ⟨wM_X5_passDays, wV_X5_passDays⟩ rfl (T_recv (by decide) (by first | assumption | decide)) rfl rfl (Nat.le_of_ble_eq_true rfl) rfl (fun r h1 hq1 => ?_)
        obtain ⟨rfl, t2, hw2, rfl⟩ := hq1
        have en : t2.2.1 9 = nI (p.2.2 9 + (fun z => nb p (pw_a p (k + 1) j z) n) e) := by
          rw [hw2.2.2.2.2 9 (by decide) (by decide), nb_eq (q := pw_a p (k + 1) j e) hn9 rfl n]
        have hjl := jqs_lt hfl e
        have hfe := hfl e
        refine J_aload_n (i := 0) (n := 49) dX6_mostNamedPart_48 rfl rfl rfl ?_
        refine T_getO (k := 2) (n := 52) wk_X6 dX6_mostNamedPart_49 wf_X6_23 (by decide) (by first | assumption | decide) rfl rfl ?_
        refine T_get (k := 9) (n := 55) wk_X5 dX6_mostNamedPart_52 wf_X6_108 (by decide) (by first | assumption | decide) rfl rfl ?_
        rw [en]
        refine J_iload (i := 5) (n := 57) dX6_mostNamedPart_55 rfl rfl ?_
        refine J_icmp_le (tgt := 73) (n := 60) dX6_mostNamedPart_57 (by decide) rfl (fun c_57 => ?_) (fun c_57 => ?_)
        · refine J_inc (i := 7) (n := 76) (lv' := [(0, _), (1, _), (2, _), (3, _), (4, _), (5, _), (6, _), (7, _)]) dX6_mostNamedPart_73 rfl (by decide) rfl rfl ?_
          refine J_goto (tgt := 9) dX6_mostNamedPart_76 (by decide) ?_
          first
          | (have hr : jqs (fun z => nb p (pw_a p (k + 1) j z) n) (e + 1) = jqs (fun z => nb p (pw_a p (k + 1) j z) n) e := jq_le (n0 := p.2.2 9) c_57 (by omega) (fun z hz => by have := hjl z hz; omega)
             have h0 := ih (e + 1) t2 (by omega) (by omega)
             rw [hr] at h0
             exact h0)
          | (have hr : jqs (fun z => nb p (pw_a p (k + 1) j z) n) (e + 1) = some (e, (fun z => nb p (pw_a p (k + 1) j z) n) e) := jq_gt (n0 := p.2.2 9) c_57 (by omega) (fun z hz => by have := hjl z hz; omega)
             have h0 := ih (e + 1) t2 (by omega) (by omega)
             rw [hr] at h0
             exact h0)
        · refine J_aload_n (i := 0) (n := 61) dX6_mostNamedPart_60 rfl rfl rfl ?_
          refine T_getO (k := 2) (n := 64) wk_X6 dX6_mostNamedPart_61 wf_X6_23 (by decide) (by first | assumption | decide) rfl rfl ?_
          refine T_get (k := 9) (n := 67) wk_X5 dX6_mostNamedPart_64 wf_X6_108 (by decide) (by first | assumption | decide) rfl rfl ?_
          rw [en]
          refine J_istore (i := 5) (n := 69) (lv' := [(0, _), (1, _), (2, _), (3, _), (4, _), (5, _), (6, _), (7, _)]) dX6_mostNamedPart_67 (by decide) rfl rfl ?_
          refine J_iload (i := 7) (n := 71) dX6_mostNamedPart_69 rfl rfl ?_
          refine J_istore (i := 6) (n := 73) (lv' := [(0, _), (1, _), (2, _), (3, _), (4, _), (5, _), (6, _), (7, _)]) dX6_mostNamedPart_71 (by decide) rfl rfl ?_
          refine J_inc (i := 7) (n := 76) (lv' := [(0, _), (1, _), (2, _), (3, _), (4, _), (5, _), (6, _), (7, _)]) dX6_mostNamedPart_73 rfl (by decide) rfl rfl ?_
          refine J_goto (tgt := 9) dX6_mostNamedPart_76 (by decide) ?_
          first
          | (have hr : jqs (fun z => nb p (pw_a p (k + 1) j z) n) (e + 1) = jqs (fun z => nb p (pw_a p (k + 1) j z) n) e := jq_le (n0 := p.2.2 9) c_57 (by omega) (fun z hz => by have := hjl z hz; omega)
             have h0 := ih (e + 1) t2 (by omega) (by omega)
             rw [hr] at h0
             exact h0)
          | (have hr : jqs (fun z => nb p (pw_a p (k + 1) j z) n) (e + 1) = some (e, (fun z => nb p (pw_a p (k + 1) j z) n) e) := jq_gt (n0 := p.2.2 9) c_57 (by omega) (fun z hz => by have := hjl z hz; omega)
             have h0 := ih (e + 1) t2 (by omega) (by omega)
             rw [hr] at h0
             exact h0)
  refine gx_K.of' (lv := [(0, _), (1, _), (2, _), (3, _), (4, _)]) (by decide) rfl (by decide) (Nat.le_of_ble_eq_true rfl) rfl ?_
  refine J_iconst (n := 1) dX6_mostNamedPart_0 kI_m1 rfl ?_
  refine J_istore (i := 5) (n := 3) (lv' := [(0, _), (1, _), (2, _), (3, _), (4, _), (5, _)]) dX6_mostNamedPart_1 (by decide) rfl rfl ?_
  refine J_iconst (n := 4) dX6_mostNamedPart_3 kI_0 rfl ?_
  refine J_istore (i := 6) (n := 6) (lv' := [(0, _), (1, _), (2, _), (3, _), (4, _), (5, _), (6, _)]) dX6_mostNamedPart_4 (by decide) rfl rfl ?_
  refine J_iconst (n := 7) dX6_mostNamedPart_6 kI_0 rfl ?_
  refine J_istore (i := 7) (n := 9) (lv' := [(0, _), (1, _), (2, _), (3, _), (4, _), (5, _), (6, _), (7, _)]) dX6_mostNamedPart_7 (by decide) rfl rfl ?_
  exact loop (B + 2) 0 t (by omega) (by omega)

set_option maxHeartbeats 4000000 in
set_option maxRecDepth 100000 in
theorem c_G_shun {G : gx_G} {σ : gs_S} {Q : Option Value → gx_Hp → Prop} {S : pS} (d : Nat) (x w : Int32) (hS : SOk S) (hc : cR σ S) (hq : ∀ τ, cR τ S → τ 7 0 = σ 7 0 → Q (some (.int (sp_shun S x w))) (hp G τ)) : gx_K G yX6_shun mX6_shun (d + 12) 0 0 [.ref (gs_a G 6 0 0), .int x, .int w] (hp G σ) Q := by
  obtain ⟨hw, hs⟩ := hc.1
  have hO := hS.1.1
  have h4 : S.1.1.2.2 6 ≤ 4 := hO.2.2.2.2.1
  have h6 : S.1.1.2.2 7 ≤ 6 := hO.2.2.2.2.2.1
  have hm11 : S.1.1.2.2 8 ≤ 11 := hO.2.2.2.2.2.2.1
  have hn9 : S.1.1.2.2 9 ≤ 9999 := hO.2.2.2.2.2.2.2
  have hd9 : S.1.1.2.2 10 ≤ 999 := hS.1.2.2.1
  have e6 := hw.2.2.2.2 6 (by decide) (by decide)
  have e7 := hw.2.2.2.2 7 (by decide) (by decide)
  have e8 := hw.2.2.2.2 8 (by decide) (by decide)
  have e9 := hw.2.2.2.2 9 (by decide) (by decide)
  have e10 := hw.2.2.2.2 10 (by decide) (by decide)
  refine gx_K.of' (lv := [(0, _), (1, _), (2, _)]) (by decide) rfl (by decide) (Nat.le_of_ble_eq_true rfl) rfl ?_
  refine J_iload_n (i := 1) (n := 1) dX6_shun_0 rfl rfl rfl ?_
  refine J_bipush (n := 3) dX6_shun_1 kB_60 rfl ?_
  refine J_callSr (n := 6) wS_X6_isWithin (c_isWithin (d + 11) x 60 ⟨rfl, rfl⟩) dX6_shun_3 wm_X6_51 wT_X6_isWithin rfl rfl (Nat.le_of_ble_eq_true rfl) rfl ?_
  refine J_if_eq (tgt := 17) (n := 9) dX6_shun_6 (by decide) rfl (fun c_6 => ?_) (fun c_6 => ?_)
  · refine J_iconst (n := 18) dX6_shun_17 kI_m1 rfl ?_
    refine J_iret dX6_shun_18 rfl (kN_i _) ?_
    unfold sp_shun at hq
    rw [if_neg (by first | (rw [nb_0] at c_6; rw [c_6, Bool.false_and]; decide) | (rw [nb_0] at c_14; rw [c_14, Bool.and_false]; decide))] at hq
    exact hq σ hc rfl
  · refine J_iload_n (i := 2) (n := 10) dX6_shun_9 rfl rfl rfl ?_
    refine J_iconst (n := 11) dX6_shun_10 kI_1 rfl ?_
    refine J_callSr (n := 14) wS_X6_isWithin (c_isWithin (d + 11) w 1 ⟨rfl, rfl⟩) dX6_shun_11 wm_X6_51 wT_X6_isWithin rfl rfl (Nat.le_of_ble_eq_true rfl) rfl ?_
    refine J_if_ne (tgt := 19) (n := 17) dX6_shun_14 (by decide) rfl (fun c_14 => ?_) (fun c_14 => ?_)
    · rw [nb_t] at c_6 c_14
      unfold sp_shun at hq
      rw [if_pos (by rw [c_6, c_14]; rfl)] at hq
      obtain ⟨n, hn60, rfl⟩ := ix_of c_6 (by decide)
      rw [nat_nI (by omega)] at hq
      refine J_aload_n (i := 0) (n := 20) dX6_shun_19 rfl rfl rfl ?_
      refine J_iload_n (i := 1) (n := 21) dX6_shun_20 rfl rfl rfl ?_
      refine J_callVx (n := 24) wS_X6_nameBehind (K_eta 5 1 (c_G_nameBehind (Q := fun r h => r = some (.int (nI (S.1.1.2.2 9 + nb S.1.1 S.1.1 n))) ∧ ∃ t1, h = hp G (gs_set σ 5 1 t1)) (d + 5) hw hO (by omega) (fun t1 => ⟨by rw [nb_eq (q := S.1.1) hn9 rfl n], t1, rfl⟩))) dX6_shun_21 wm_X6_182 ⟨wM_X6_nameBehind, wV_X6_nameBehind⟩ rfl (T_recv (by decide) (by first | assumption | decide)) rfl rfl (Nat.le_of_ble_eq_true rfl) rfl (fun r h1 hq1 => ?_)
      obtain ⟨rfl, t1, rfl⟩ := hq1
      refine J_istore_n (i := 3) (n := 25) (lv' := [(0, _), (1, _), (2, _), (3, _)]) dX6_shun_24 rfl (by decide) rfl rfl ?_
      refine J_bipush (n := 27) dX6_shun_25 kB_m4 rfl ?_
      refine J_istore (i := 4) (n := 29) (lv' := [(0, _), (1, _), (2, _), (3, _), (4, _)]) dX6_shun_27 (by decide) rfl rfl ?_
      refine J_iconst (n := 30) dX6_shun_29 kI_0 rfl ?_
      refine J_istore (i := 5) (n := 32) (lv' := [(0, _), (1, _), (2, _), (3, _), (4, _), (5, _)]) dX6_shun_30 (by decide) rfl rfl ?_
      have hfl : ∀ i, (fun i => nb S.1.1 (pw_shun S.1.1 i) n) i < 10000 := fun i => nb_lt (show (pw_shun S.1.1 i).2.2 9 ≤ 9999 from hn9) n
      have hb0 := nb_lt (p := S.1.1) hn9 n
      have loop : ∀ u e t0, S.1.1.2.2 7 - e < u → e ≤ S.1.1.2.2 7 → gx_J G mX6_shun (d + 12) 0 0 Q 32 [(0, .ref (gs_a G 6 0 0)), (1, .int (nI n)), (2, .int w), (3, .int (nI (S.1.1.2.2 9 + (jds (fun i => nb S.1.1 (pw_shun S.1.1 i) n) (nb S.1.1 S.1.1 n) e).2))), (4, .int (cd (jds (fun i => nb S.1.1 (pw_shun S.1.1 i) n) (nb S.1.1 S.1.1 n) e).1)), (5, .int (nI e))] [] (hp G (gs_set σ 5 1 t0)) := by
        intro u
        induction u with
        | zero => intros; exact absurd (by assumption) (Nat.not_lt_zero _)
        | succ u ih =>
          intro e t0 hu he
          refine J_iload (i := 5) (n := 34) dX6_shun_32 rfl rfl ?_
          refine J_aload_n (i := 0) (n := 35) dX6_shun_34 rfl rfl rfl ?_
          refine T_getO (k := 0) (n := 38) wk_X6 dX6_shun_35 wf_X6_10 (by decide) (by first | assumption | decide) rfl rfl ?_
          refine T_getO (k := 7) (n := 41) wk_X5 dX6_shun_38 wf_X6_118 (by decide) (by first | assumption | decide) rfl rfl ?_
          rw [gs_neI (by decide : (0 : Nat) ≠ 1), e7]
          refine J_icmp_ge (tgt := 101) (n := 44) dX6_shun_41 (by decide) rfl (fun c_41 => ?_) (fun c_41 => ?_)
          · rw [nI_leI (by omega) (by omega)] at c_41
            have ee : e = S.1.1.2.2 7 := by omega
            subst ee
            have h0 := hq _ (hc.scr1 (c := 5) (i := 1) (w := t0) (Or.inl ⟨rfl, by decide, by decide⟩)) (gs_neC (by decide))
            obtain ⟨z1, z2, z3⟩ := ad_end (r := jds (fun i => nb S.1.1 (pw_shun S.1.1 i) n) (nb S.1.1 S.1.1 n) (S.1.1.2.2 7)) (w := w) (n0 := S.1.1.2.2 9) (fun c hc => by have := jds_code _ c hc; omega)
            refine J_iload (i := 4) (n := 103) dX6_shun_101 rfl rfl ?_
            refine J_bipush (n := 105) dX6_shun_103 kB_m4 rfl ?_
            refine J_icmp_eq (tgt := 112) (n := 108) dX6_shun_105 (by decide) rfl (fun c_105 => ?_) (fun c_105 => ?_)
            · refine J_iload (i := 4) (n := 114) dX6_shun_112 rfl rfl ?_
              refine J_goto (tgt := 126) dX6_shun_114 (by decide) ?_
              refine J_iret dX6_shun_126 rfl (kN_i _) ?_
              first
              | (rw [z1 c_105] at h0; exact h0)
              | (rw [z2 c_105 c_109] at h0; exact h0)
              | (rw [z3 c_105 c_109] at h0; rw [gs_neI (by decide : (0 : Nat) ≠ 1), e9]; exact h0)
            · refine J_iload_n (i := 2) (n := 109) dX6_shun_108 rfl rfl rfl ?_
              refine J_if_ne (tgt := 117) (n := 112) dX6_shun_109 (by decide) rfl (fun c_109 => ?_) (fun c_109 => ?_)
              · refine J_iload_n (i := 3) (n := 118) dX6_shun_117 rfl rfl rfl ?_
                refine J_aload_n (i := 0) (n := 119) dX6_shun_118 rfl rfl rfl ?_
                refine T_getO (k := 0) (n := 122) wk_X6 dX6_shun_119 wf_X6_10 (by decide) (by first | assumption | decide) rfl rfl ?_
                refine T_getO (k := 9) (n := 125) wk_X5 dX6_shun_122 wf_X6_108 (by decide) (by first | assumption | decide) rfl rfl ?_
                refine J_isub (n := 126) dX6_shun_125 rfl ?_
                refine J_iret dX6_shun_126 rfl (kN_i _) ?_
                first
                | (rw [z1 c_105] at h0; exact h0)
                | (rw [z2 c_105 c_109] at h0; exact h0)
                | (rw [z3 c_105 c_109] at h0; rw [gs_neI (by decide : (0 : Nat) ≠ 1), e9]; exact h0)
              · refine J_iload (i := 4) (n := 114) dX6_shun_112 rfl rfl ?_
                refine J_goto (tgt := 126) dX6_shun_114 (by decide) ?_
                refine J_iret dX6_shun_126 rfl (kN_i _) ?_
                first
                | (rw [z1 c_105] at h0; exact h0)
                | (rw [z2 c_105 c_109] at h0; exact h0)
                | (rw [z3 c_105 c_109] at h0; rw [gs_neI (by decide : (0 : Nat) ≠ 1), e9]; exact h0)
          · rw [nI_leI (by omega) (by omega)] at c_41
            refine J_aload_n (i := 0) (n := 45) dX6_shun_44 rfl rfl rfl ?_
            refine T_getO (k := 2) (n := 48) wk_X6 dX6_shun_45 wf_X6_23 (by decide) (by first | assumption | decide) rfl rfl ?_
            refine J_aload_n (i := 0) (n := 49) dX6_shun_48 rfl rfl rfl ?_
            refine T_getO (k := 0) (n := 52) wk_X6 dX6_shun_49 wf_X6_10 (by decide) (by first | assumption | decide) rfl rfl ?_
            refine J_callVx (n := 55) wS_X5_become (c_W_become (Q := fun r h => r = none ∧ ∃ t1, wR t1 S.1.1 ∧ h = hp G (gs_set σ 5 1 t1)) (d + 10) (i := 1) (j := 0) (by decide) (by decide) (by decide) hw hO (fun t1 h1 => ⟨rfl, t1, h1, rfl⟩)) dX6_shun_52 wm_X6_85 ⟨wM_X5_become, wV_X5_become⟩ rfl (T_recv (by decide) (by first | assumption | decide)) rfl rfl (Nat.le_of_ble_eq_true rfl) rfl (fun r h1 hq1 => ?_)
            obtain ⟨rfl, t1, hw1, rfl⟩ := hq1
            refine J_aload_n (i := 0) (n := 56) dX6_shun_55 rfl rfl rfl ?_
            refine T_getO (k := 2) (n := 59) wk_X6 dX6_shun_56 wf_X6_23 (by decide) (by first | assumption | decide) rfl rfl ?_
            refine J_iload (i := 5) (n := 61) dX6_shun_59 rfl rfl ?_
            refine J_callVx (n := 64) wS_X5_leaveOutCall (c_W_leaveOutCall (Q := fun r h => r = none ∧ ∃ t3, wR t3 (pw_shun S.1.1 e) ∧ h = hp G (gs_set σ 5 1 t3)) (d + 11) (i := 1) (by decide) hw1 hO (by omega) (fun t3 h3 => ⟨rfl, t3, h3, rfl⟩)) dX6_shun_61 wm_X6_188 ⟨wM_X5_leaveOutCall, wV_X5_leaveOutCall⟩ rfl (T_recv (by decide) (by first | assumption | decide)) rfl rfl (Nat.le_of_ble_eq_true rfl) rfl (fun r h1 hq1 => ?_)
            obtain ⟨rfl, t3, hw3, rfl⟩ := hq1
            refine J_aload_n (i := 0) (n := 65) dX6_shun_64 rfl rfl rfl ?_
            refine T_getO (k := 2) (n := 68) wk_X6 dX6_shun_65 wf_X6_23 (by decide) (by first | assumption | decide) rfl rfl ?_
            refine J_iload_n (i := 1) (n := 69) dX6_shun_68 rfl rfl rfl ?_
            refine J_callVx (n := 72) wS_X5_passDays (c_W_passDays (Q := fun r h => r = none ∧ ∃ t2, wR t2 (pw_days (pw_shun S.1.1 e) n) ∧ h = hp G (gs_set σ 5 1 t2)) (d + 6) (i := 1) (by decide) hw3 (pw_shun_ok hO (by omega)) (show S.1.1.2.2 10 + n < 2 ^ 30 by omega) (fun t2 h2 => ⟨rfl, t2, h2, rfl⟩)) dX6_shun_69 wm_X6_170 ⟨wM_X5_passDays, wV_X5_passDays⟩ rfl (T_recv (by decide) (by first | assumption | decide)) rfl rfl (Nat.le_of_ble_eq_true rfl) rfl (fun r h1 hq1 => ?_)
            obtain ⟨rfl, t2, hw2, rfl⟩ := hq1
            have en : t2.2.1 9 = nI (S.1.1.2.2 9 + (fun i => nb S.1.1 (pw_shun S.1.1 i) n) e) := by
              rw [hw2.2.2.2.2 9 (by decide) (by decide), nb_eq (q := pw_shun S.1.1 e) hn9 rfl n]
            have hfe := hfl e
            have hjl := jds_lt hfl (nb_lt (p := S.1.1) (q := S.1.1) hn9 n) e
            refine J_aload_n (i := 0) (n := 73) dX6_shun_72 rfl rfl rfl ?_
            refine T_getO (k := 2) (n := 76) wk_X6 dX6_shun_73 wf_X6_23 (by decide) (by first | assumption | decide) rfl rfl ?_
            refine T_get (k := 9) (n := 79) wk_X5 dX6_shun_76 wf_X6_108 (by decide) (by first | assumption | decide) rfl rfl ?_
            rw [en]
            refine J_iload_n (i := 3) (n := 80) dX6_shun_79 rfl rfl rfl ?_
            refine J_icmp_le (tgt := 95) (n := 83) dX6_shun_80 (by decide) rfl (fun c_80 => ?_) (fun c_80 => ?_)
            · refine J_inc (i := 5) (n := 98) (lv' := [(0, _), (1, _), (2, _), (3, _), (4, _), (5, _)]) dX6_shun_95 rfl (by decide) rfl rfl ?_
              refine J_goto (tgt := 32) dX6_shun_98 (by decide) ?_
              first
              | (have hr : jds (fun i => nb S.1.1 (pw_shun S.1.1 i) n) (nb S.1.1 S.1.1 n) (e + 1) = jds (fun i => nb S.1.1 (pw_shun S.1.1 i) n) (nb S.1.1 S.1.1 n) e := jd_le (by have := (nI_leI (by omega) (by omega)).mp c_80; omega)
                 have h0 := ih (e + 1) t2 (by omega) (by omega)
                 rw [hr] at h0
                 exact h0)
              | (have hr : jds (fun i => nb S.1.1 (pw_shun S.1.1 i) n) (nb S.1.1 S.1.1 n) (e + 1) = (some e, (fun i => nb S.1.1 (pw_shun S.1.1 i) n) e) := jd_gt (fun q => c_80 ((nI_leI (by omega) (by omega)).mpr (by omega)))
                 have h0 := ih (e + 1) t2 (by omega) (by omega)
                 rw [hr] at h0
                 exact h0)
            · refine J_aload_n (i := 0) (n := 84) dX6_shun_83 rfl rfl rfl ?_
              refine T_getO (k := 2) (n := 87) wk_X6 dX6_shun_84 wf_X6_23 (by decide) (by first | assumption | decide) rfl rfl ?_
              refine T_get (k := 9) (n := 90) wk_X5 dX6_shun_87 wf_X6_108 (by decide) (by first | assumption | decide) rfl rfl ?_
              rw [en]
              refine J_istore_n (i := 3) (n := 91) (lv' := [(0, _), (1, _), (2, _), (3, _), (4, _), (5, _)]) dX6_shun_90 rfl (by decide) rfl rfl ?_
              refine J_iload (i := 5) (n := 93) dX6_shun_91 rfl rfl ?_
              refine J_istore (i := 4) (n := 95) (lv' := [(0, _), (1, _), (2, _), (3, _), (4, _), (5, _)]) dX6_shun_93 (by decide) rfl rfl ?_
              refine J_inc (i := 5) (n := 98) (lv' := [(0, _), (1, _), (2, _), (3, _), (4, _), (5, _)]) dX6_shun_95 rfl (by decide) rfl rfl ?_
              refine J_goto (tgt := 32) dX6_shun_98 (by decide) ?_
              first
              | (have hr : jds (fun i => nb S.1.1 (pw_shun S.1.1 i) n) (nb S.1.1 S.1.1 n) (e + 1) = jds (fun i => nb S.1.1 (pw_shun S.1.1 i) n) (nb S.1.1 S.1.1 n) e := jd_le (by have := (nI_leI (by omega) (by omega)).mp c_80; omega)
                 have h0 := ih (e + 1) t2 (by omega) (by omega)
                 rw [hr] at h0
                 exact h0)
              | (have hr : jds (fun i => nb S.1.1 (pw_shun S.1.1 i) n) (nb S.1.1 S.1.1 n) (e + 1) = (some e, (fun i => nb S.1.1 (pw_shun S.1.1 i) n) e) := jd_gt (fun q => c_80 ((nI_leI (by omega) (by omega)).mpr (by omega)))
                 have h0 := ih (e + 1) t2 (by omega) (by omega)
                 rw [hr] at h0
                 exact h0)
      exact loop (S.1.1.2.2 7 + 1) 0 t1 (by omega) (by omega)
    · refine J_iconst (n := 18) dX6_shun_17 kI_m1 rfl ?_
      refine J_iret dX6_shun_18 rfl (kN_i _) ?_
      unfold sp_shun at hq
      rw [if_neg (by first | (rw [nb_0] at c_6; rw [c_6, Bool.false_and]; decide) | (rw [nb_0] at c_14; rw [c_14, Bool.and_false]; decide))] at hq
      exact hq σ hc rfl

set_option maxHeartbeats 4000000 in
set_option maxRecDepth 100000 in
theorem c_G_swap {G : gx_G} {σ : gs_S} {Q : Option Value → gx_Hp → Prop} {S : pS} (d : Nat) (x w : Int32) (hS : SOk S) (hc : cR σ S) (hq : ∀ τ, cR τ S → τ 7 0 = σ 7 0 → Q (some (.int (sp_swap S x w))) (hp G τ)) : gx_K G yX6_swap mX6_swap (d + 12) 0 0 [.ref (gs_a G 6 0 0), .int x, .int w] (hp G σ) Q := by
  obtain ⟨hw, hs⟩ := hc.1
  have hO := hS.1.1
  have h4 : S.1.1.2.2 6 ≤ 4 := hO.2.2.2.2.1
  have h6 : S.1.1.2.2 7 ≤ 6 := hO.2.2.2.2.2.1
  have hm11 : S.1.1.2.2 8 ≤ 11 := hO.2.2.2.2.2.2.1
  have hn9 : S.1.1.2.2 9 ≤ 9999 := hO.2.2.2.2.2.2.2
  have hd9 : S.1.1.2.2 10 ≤ 999 := hS.1.2.2.1
  have e6 := hw.2.2.2.2 6 (by decide) (by decide)
  have e7 := hw.2.2.2.2 7 (by decide) (by decide)
  have e8 := hw.2.2.2.2 8 (by decide) (by decide)
  have e9 := hw.2.2.2.2 9 (by decide) (by decide)
  have e10 := hw.2.2.2.2 10 (by decide) (by decide)
  refine gx_K.of' (lv := [(0, _), (1, _), (2, _)]) (by decide) rfl (by decide) (Nat.le_of_ble_eq_true rfl) rfl ?_
  refine J_iload_n (i := 1) (n := 1) dX6_swap_0 rfl rfl rfl ?_
  refine J_bipush (n := 3) dX6_swap_1 kB_60 rfl ?_
  refine J_callSr (n := 6) wS_X6_isWithin (c_isWithin (d + 11) x 60 ⟨rfl, rfl⟩) dX6_swap_3 wm_X6_51 wT_X6_isWithin rfl rfl (Nat.le_of_ble_eq_true rfl) rfl ?_
  refine J_if_eq (tgt := 17) (n := 9) dX6_swap_6 (by decide) rfl (fun c_6 => ?_) (fun c_6 => ?_)
  · refine J_iconst (n := 18) dX6_swap_17 kI_m1 rfl ?_
    refine J_iret dX6_swap_18 rfl (kN_i _) ?_
    unfold sp_swap at hq
    rw [if_neg (by first | (rw [nb_0] at c_6; rw [c_6, Bool.false_and]; decide) | (rw [nb_0] at c_14; rw [c_14, Bool.and_false]; decide))] at hq
    exact hq σ hc rfl
  · refine J_iload_n (i := 2) (n := 10) dX6_swap_9 rfl rfl rfl ?_
    refine J_iconst (n := 11) dX6_swap_10 kI_1 rfl ?_
    refine J_callSr (n := 14) wS_X6_isWithin (c_isWithin (d + 11) w 1 ⟨rfl, rfl⟩) dX6_swap_11 wm_X6_51 wT_X6_isWithin rfl rfl (Nat.le_of_ble_eq_true rfl) rfl ?_
    refine J_if_ne (tgt := 19) (n := 17) dX6_swap_14 (by decide) rfl (fun c_14 => ?_) (fun c_14 => ?_)
    · rw [nb_t] at c_6 c_14
      unfold sp_swap at hq
      rw [if_pos (by rw [c_6, c_14]; rfl)] at hq
      obtain ⟨n, hn60, rfl⟩ := ix_of c_6 (by decide)
      rw [nat_nI (by omega)] at hq
      refine J_aload_n (i := 0) (n := 20) dX6_swap_19 rfl rfl rfl ?_
      refine J_iload_n (i := 1) (n := 21) dX6_swap_20 rfl rfl rfl ?_
      refine J_callVx (n := 24) wS_X6_nameBehind (K_eta 5 1 (c_G_nameBehind (Q := fun r h => r = some (.int (nI (S.1.1.2.2 9 + nb S.1.1 S.1.1 n))) ∧ ∃ t1, h = hp G (gs_set σ 5 1 t1)) (d + 5) hw hO (by omega) (fun t1 => ⟨by rw [nb_eq (q := S.1.1) hn9 rfl n], t1, rfl⟩))) dX6_swap_21 wm_X6_182 ⟨wM_X6_nameBehind, wV_X6_nameBehind⟩ rfl (T_recv (by decide) (by first | assumption | decide)) rfl rfl (Nat.le_of_ble_eq_true rfl) rfl (fun r h1 hq1 => ?_)
      obtain ⟨rfl, t1, rfl⟩ := hq1
      refine J_istore_n (i := 3) (n := 25) (lv' := [(0, _), (1, _), (2, _), (3, _)]) dX6_swap_24 rfl (by decide) rfl rfl ?_
      refine J_bipush (n := 27) dX6_swap_25 kB_m4 rfl ?_
      refine J_istore (i := 4) (n := 29) (lv' := [(0, _), (1, _), (2, _), (3, _), (4, _)]) dX6_swap_27 (by decide) rfl rfl ?_
      refine J_iconst (n := 30) dX6_swap_29 kI_0 rfl ?_
      refine J_istore (i := 5) (n := 32) (lv' := [(0, _), (1, _), (2, _), (3, _), (4, _), (5, _)]) dX6_swap_30 (by decide) rfl rfl ?_
      have hfl2 : ∀ i k, (fun i k => nb S.1.1 (pw_sw S.1.1 i k) n) i k < 10000 := fun i k => nb_lt (show (pw_sw S.1.1 i k).2.2 9 ≤ 9999 from hn9) n
      have hb0 := nb_lt (p := S.1.1) (q := S.1.1) hn9 n
      have hl2 := fun e => swO_lt (k := (S.1.1.2.2 7)) hfl2 hb0 e
      have loop : ∀ u e t0, S.1.1.2.2 7 - e < u → e ≤ S.1.1.2.2 7 → gx_J G mX6_swap (d + 12) 0 0 Q 32 [(0, .ref (gs_a G 6 0 0)), (1, .int (nI n)), (2, .int w), (3, .int (nI (S.1.1.2.2 9 + (swO (fun i k => nb S.1.1 (pw_sw S.1.1 i k) n) (S.1.1.2.2 7) (nb S.1.1 S.1.1 n) e).2))), (4, .int (cd (swO (fun i k => nb S.1.1 (pw_sw S.1.1 i k) n) (S.1.1.2.2 7) (nb S.1.1 S.1.1 n) e).1)), (5, .int (nI e))] [] (hp G (gs_set σ 5 1 t0)) := by
        intro u
        induction u with
        | zero => intros; exact absurd (by assumption) (Nat.not_lt_zero _)
        | succ u ih =>
          intro e t0 hu he
          have inn : e < S.1.1.2.2 7 → ∀ u2 m t0, S.1.1.2.2 7 - (e + 1) - m < u2 → m ≤ S.1.1.2.2 7 - (e + 1) → gx_J G mX6_swap (d + 12) 0 0 Q 50 [(0, .ref (gs_a G 6 0 0)), (1, .int (nI n)), (2, .int w), (3, .int (nI (S.1.1.2.2 9 + (swI (fun i k => nb S.1.1 (pw_sw S.1.1 i k) n) e (swO (fun i k => nb S.1.1 (pw_sw S.1.1 i k) n) (S.1.1.2.2 7) (nb S.1.1 S.1.1 n) e) m).2))), (4, .int (cd (swI (fun i k => nb S.1.1 (pw_sw S.1.1 i k) n) e (swO (fun i k => nb S.1.1 (pw_sw S.1.1 i k) n) (S.1.1.2.2 7) (nb S.1.1 S.1.1 n) e) m).1)), (5, .int (nI e)), (6, .int (nI (e + 1 + m)))] [] (hp G (gs_set σ 5 1 t0)) := by
            intro hel u2
            induction u2 with
            | zero => intros; exact absurd (by assumption) (Nat.not_lt_zero _)
            | succ u2 ih2 =>
              intro m t0 hu2 hm
              refine J_iload (i := 6) (n := 52) dX6_swap_50 rfl rfl ?_
              refine J_aload_n (i := 0) (n := 53) dX6_swap_52 rfl rfl rfl ?_
              refine T_getO (k := 0) (n := 56) wk_X6 dX6_swap_53 wf_X6_10 (by decide) (by first | assumption | decide) rfl rfl ?_
              refine T_getO (k := 7) (n := 59) wk_X5 dX6_swap_56 wf_X6_118 (by decide) (by first | assumption | decide) rfl rfl ?_
              rw [gs_neI (by decide : (0 : Nat) ≠ 1), e7]
              refine J_icmp_ge (tgt := 98) (n := 62) dX6_swap_59 (by decide) rfl (fun c_59 => ?_) (fun c_59 => ?_)
              · refine J_inc (i := 5) (n := 101) (lv' := [(0, _), (1, _), (2, _), (3, _), (4, _), (5, _), (6, _)]) dX6_swap_98 rfl (by decide) rfl rfl ?_
                refine J_goto (tgt := 32) dX6_swap_101 (by decide) ?_
                refine J_sub (lv' := [(0, _), (1, _), (2, _), (3, _), (4, _), (5, _)]) (fun q hq => List.mem_append_left [(6, _)] hq) ?_
                rw [nI_leI (by omega) (by omega)] at c_59
                have em : m = S.1.1.2.2 7 - (e + 1) := by omega
                subst em
                exact ih (e + 1) t0 (by omega) (by omega)
              · rw [nI_leI (by omega) (by omega)] at c_59
                refine J_aload_n (i := 0) (n := 63) dX6_swap_62 rfl rfl rfl ?_
                refine J_iload (i := 5) (n := 65) dX6_swap_63 rfl rfl ?_
                refine J_iload (i := 6) (n := 67) dX6_swap_65 rfl rfl ?_
                refine J_iload_n (i := 1) (n := 68) dX6_swap_67 rfl rfl rfl ?_
                refine J_callVx (n := 71) wS_X6_nameWithSwap (c_G_nameWithSwap (Q := fun r h => r = some (.int (nI (S.1.1.2.2 9 + (fun i k => nb S.1.1 (pw_sw S.1.1 i k) n) e (e + 1 + m)))) ∧ ∃ t1, h = hp G (gs_set σ 5 1 t1)) (d + 5) (i := e) (j := e + 1 + m) hw hO (by omega) (by omega) (by omega) (fun t1 => ⟨by rw [nb_eq (q := pw_sw S.1.1 e (e + 1 + m)) hn9 rfl n], t1, rfl⟩)) dX6_swap_68 wm_X6_185 ⟨wM_X6_nameWithSwap, wV_X6_nameWithSwap⟩ rfl (T_recv (by decide) (by first | assumption | decide)) rfl rfl (Nat.le_of_ble_eq_true rfl) rfl (fun r h1 hq1 => ?_)
                obtain ⟨rfl, t2, rfl⟩ := hq1
                have hfe := hfl2 e (e + 1 + m)
                have hjl := swI_lt (i := e) hfl2 (hl2 e) m
                refine J_istore (i := 7) (n := 73) (lv' := [(0, _), (1, _), (2, _), (3, _), (4, _), (5, _), (6, _), (7, _)]) dX6_swap_71 (by decide) rfl rfl ?_
                refine J_iload (i := 7) (n := 75) dX6_swap_73 rfl rfl ?_
                refine J_iload_n (i := 3) (n := 76) dX6_swap_75 rfl rfl rfl ?_
                refine J_icmp_le (tgt := 92) (n := 79) dX6_swap_76 (by decide) rfl (fun c_76 => ?_) (fun c_76 => ?_)
                · refine J_inc (i := 6) (n := 95) (lv' := [(0, _), (1, _), (2, _), (3, _), (4, _), (5, _), (6, _), (7, _)]) dX6_swap_92 rfl (by decide) rfl rfl ?_
                  refine J_goto (tgt := 50) dX6_swap_95 (by decide) ?_
                  refine J_sub (lv' := [(0, _), (1, _), (2, _), (3, _), (4, _), (5, _), (6, _)]) (fun q hq => List.mem_append_left [(7, _)] hq) ?_
                  first
                  | (have hr : swI (fun i k => nb S.1.1 (pw_sw S.1.1 i k) n) e (swO (fun i k => nb S.1.1 (pw_sw S.1.1 i k) n) (S.1.1.2.2 7) (nb S.1.1 S.1.1 n) e) (m + 1) = swI (fun i k => nb S.1.1 (pw_sw S.1.1 i k) n) e (swO (fun i k => nb S.1.1 (pw_sw S.1.1 i k) n) (S.1.1.2.2 7) (nb S.1.1 S.1.1 n) e) m := jd_le (by have := (nI_leI (by omega) (by omega)).mp c_76; omega)
                     have h0 := ih2 (m + 1) t2 (by omega) (by omega)
                     rw [hr] at h0
                     exact h0)
                  | (have hr : swI (fun i k => nb S.1.1 (pw_sw S.1.1 i k) n) e (swO (fun i k => nb S.1.1 (pw_sw S.1.1 i k) n) (S.1.1.2.2 7) (nb S.1.1 S.1.1 n) e) (m + 1) = (some (10 * e + (e + 1 + m)), (fun i k => nb S.1.1 (pw_sw S.1.1 i k) n) e (e + 1 + m)) := jd_gt (fun q => c_76 ((nI_leI (by omega) (by omega)).mpr (by omega)))
                     have h0 := ih2 (m + 1) t2 (by omega) (by omega)
                     rw [hr] at h0
                     exact h0)
                · refine J_iload (i := 7) (n := 81) dX6_swap_79 rfl rfl ?_
                  refine J_istore_n (i := 3) (n := 82) (lv' := [(0, _), (1, _), (2, _), (3, _), (4, _), (5, _), (6, _), (7, _)]) dX6_swap_81 rfl (by decide) rfl rfl ?_
                  refine J_bipush (n := 84) dX6_swap_82 kB_10 rfl ?_
                  refine J_iload (i := 5) (n := 86) dX6_swap_84 rfl rfl ?_
                  refine J_imul (n := 87) dX6_swap_86 rfl ?_
                  refine J_iload (i := 6) (n := 89) dX6_swap_87 rfl rfl ?_
                  refine J_iadd (n := 90) dX6_swap_89 rfl ?_
                  rw [pk_mul, nI_add]
                  refine J_istore (i := 4) (n := 92) (lv' := [(0, _), (1, _), (2, _), (3, _), (4, _), (5, _), (6, _), (7, _)]) dX6_swap_90 (by decide) rfl rfl ?_
                  refine J_inc (i := 6) (n := 95) (lv' := [(0, _), (1, _), (2, _), (3, _), (4, _), (5, _), (6, _), (7, _)]) dX6_swap_92 rfl (by decide) rfl rfl ?_
                  refine J_goto (tgt := 50) dX6_swap_95 (by decide) ?_
                  refine J_sub (lv' := [(0, _), (1, _), (2, _), (3, _), (4, _), (5, _), (6, _)]) (fun q hq => List.mem_append_left [(7, _)] hq) ?_
                  first
                  | (have hr : swI (fun i k => nb S.1.1 (pw_sw S.1.1 i k) n) e (swO (fun i k => nb S.1.1 (pw_sw S.1.1 i k) n) (S.1.1.2.2 7) (nb S.1.1 S.1.1 n) e) (m + 1) = swI (fun i k => nb S.1.1 (pw_sw S.1.1 i k) n) e (swO (fun i k => nb S.1.1 (pw_sw S.1.1 i k) n) (S.1.1.2.2 7) (nb S.1.1 S.1.1 n) e) m := jd_le (by have := (nI_leI (by omega) (by omega)).mp c_76; omega)
                     have h0 := ih2 (m + 1) t2 (by omega) (by omega)
                     rw [hr] at h0
                     exact h0)
                  | (have hr : swI (fun i k => nb S.1.1 (pw_sw S.1.1 i k) n) e (swO (fun i k => nb S.1.1 (pw_sw S.1.1 i k) n) (S.1.1.2.2 7) (nb S.1.1 S.1.1 n) e) (m + 1) = (some (10 * e + (e + 1 + m)), (fun i k => nb S.1.1 (pw_sw S.1.1 i k) n) e (e + 1 + m)) := jd_gt (fun q => c_76 ((nI_leI (by omega) (by omega)).mpr (by omega)))
                     have h0 := ih2 (m + 1) t2 (by omega) (by omega)
                     rw [hr] at h0
                     exact h0)
          refine J_iload (i := 5) (n := 34) dX6_swap_32 rfl rfl ?_
          refine J_aload_n (i := 0) (n := 35) dX6_swap_34 rfl rfl rfl ?_
          refine T_getO (k := 0) (n := 38) wk_X6 dX6_swap_35 wf_X6_10 (by decide) (by first | assumption | decide) rfl rfl ?_
          refine T_getO (k := 7) (n := 41) wk_X5 dX6_swap_38 wf_X6_118 (by decide) (by first | assumption | decide) rfl rfl ?_
          rw [gs_neI (by decide : (0 : Nat) ≠ 1), e7]
          refine J_icmp_ge (tgt := 104) (n := 44) dX6_swap_41 (by decide) rfl (fun c_41 => ?_) (fun c_41 => ?_)
          · rw [nI_leI (by omega) (by omega)] at c_41
            have ee : e = S.1.1.2.2 7 := by omega
            subst ee
            have h0 := hq _ (hc.scr1 (c := 5) (i := 1) (w := t0) (Or.inl ⟨rfl, by decide, by decide⟩)) (gs_neC (by decide))
            obtain ⟨z1, z2, z3⟩ := ad_end (r := swO (fun i k => nb S.1.1 (pw_sw S.1.1 i k) n) (S.1.1.2.2 7) (nb S.1.1 S.1.1 n) (S.1.1.2.2 7)) (w := w) (n0 := S.1.1.2.2 9) (fun c hc => by have := swO_code h6 _ (Nat.le_refl _) c hc; omega)
            refine J_iload (i := 4) (n := 106) dX6_swap_104 rfl rfl ?_
            refine J_bipush (n := 108) dX6_swap_106 kB_m4 rfl ?_
            refine J_icmp_eq (tgt := 115) (n := 111) dX6_swap_108 (by decide) rfl (fun c_108 => ?_) (fun c_108 => ?_)
            · refine J_iload (i := 4) (n := 117) dX6_swap_115 rfl rfl ?_
              refine J_goto (tgt := 129) dX6_swap_117 (by decide) ?_
              refine J_iret dX6_swap_129 rfl (kN_i _) ?_
              first
              | (rw [z1 c_108] at h0; exact h0)
              | (rw [z2 c_108 c_112] at h0; exact h0)
              | (rw [z3 c_108 c_112] at h0; rw [gs_neI (by decide : (0 : Nat) ≠ 1), e9]; exact h0)
            · refine J_iload_n (i := 2) (n := 112) dX6_swap_111 rfl rfl rfl ?_
              refine J_if_ne (tgt := 120) (n := 115) dX6_swap_112 (by decide) rfl (fun c_112 => ?_) (fun c_112 => ?_)
              · refine J_iload_n (i := 3) (n := 121) dX6_swap_120 rfl rfl rfl ?_
                refine J_aload_n (i := 0) (n := 122) dX6_swap_121 rfl rfl rfl ?_
                refine T_getO (k := 0) (n := 125) wk_X6 dX6_swap_122 wf_X6_10 (by decide) (by first | assumption | decide) rfl rfl ?_
                refine T_getO (k := 9) (n := 128) wk_X5 dX6_swap_125 wf_X6_108 (by decide) (by first | assumption | decide) rfl rfl ?_
                refine J_isub (n := 129) dX6_swap_128 rfl ?_
                refine J_iret dX6_swap_129 rfl (kN_i _) ?_
                first
                | (rw [z1 c_108] at h0; exact h0)
                | (rw [z2 c_108 c_112] at h0; exact h0)
                | (rw [z3 c_108 c_112] at h0; rw [gs_neI (by decide : (0 : Nat) ≠ 1), e9]; exact h0)
              · refine J_iload (i := 4) (n := 117) dX6_swap_115 rfl rfl ?_
                refine J_goto (tgt := 129) dX6_swap_117 (by decide) ?_
                refine J_iret dX6_swap_129 rfl (kN_i _) ?_
                first
                | (rw [z1 c_108] at h0; exact h0)
                | (rw [z2 c_108 c_112] at h0; exact h0)
                | (rw [z3 c_108 c_112] at h0; rw [gs_neI (by decide : (0 : Nat) ≠ 1), e9]; exact h0)
          · rw [nI_leI (by omega) (by omega)] at c_41
            refine J_iload (i := 5) (n := 46) dX6_swap_44 rfl rfl ?_
            refine J_iconst (n := 47) dX6_swap_46 kI_1 rfl ?_
            refine J_iadd (n := 48) dX6_swap_47 rfl ?_
            rw [nI_add]
            refine J_istore (i := 6) (n := 50) (lv' := [(0, _), (1, _), (2, _), (3, _), (4, _), (5, _), (6, _)]) dX6_swap_48 (by decide) rfl rfl ?_
            exact inn (by omega) (S.1.1.2.2 7 - (e + 1) + 1) 0 t0 (by omega) (by omega)
      exact loop (S.1.1.2.2 7 + 1) 0 t1 (by omega) (by omega)
    · refine J_iconst (n := 18) dX6_swap_17 kI_m1 rfl ?_
      refine J_iret dX6_swap_18 rfl (kN_i _) ?_
      unfold sp_swap at hq
      rw [if_neg (by first | (rw [nb_0] at c_6; rw [c_6, Bool.false_and]; decide) | (rw [nb_0] at c_14; rw [c_14, Bool.and_false]; decide))] at hq
      exact hq σ hc rfl

