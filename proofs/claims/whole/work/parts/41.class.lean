theorem mx_nI {a b : Nat} (ha : a < 2 ^ 31) (hb : b < 2 ^ 31) : (if nI a < nI b then nI b else nI a) = nI (max a b) := by
  by_cases h : a < b
  · rw [if_pos (nI_lt h hb), Nat.max_eq_right (by omega)]
  · rw [if_neg (nI_nlt (by omega) ha), Nat.max_eq_left (by omega)]
def cm (r : Option (Nat × Nat)) (n0 : Nat) : Int32 := match r with
  | none => -1
  | some x => nI (n0 + x.2)
def cb (r : Option (Nat × Nat)) : Int32 := match r with
  | none => nI 0
  | some x => nI x.1
theorem nI_m1 {m : Nat} (h : m < 2 ^ 31) : ¬ nI m ≤ -1 := fun q => nI_pos h (Int32.lt_of_le_of_lt q (by decide +kernel))
theorem jq_le {r : Option (Nat × Nat)} {c m n0 : Nat} (h : nI (n0 + m) ≤ cm r n0) (hm : n0 + m < 2 ^ 31) (hr : ∀ x, r = some x → n0 + x.2 < 2 ^ 31) : jq r c m = r := by
  cases r with
  | none => exact absurd h (nI_m1 hm)
  | some x =>
    have h1 : n0 + m ≤ n0 + x.2 := (nI_leI hm (hr x rfl)).mp h
    show (if x.2 < m then some (c, m) else some x) = _
    rw [if_neg (by omega)]
theorem jq_gt {r : Option (Nat × Nat)} {c m n0 : Nat} (h : ¬ nI (n0 + m) ≤ cm r n0) (hm : n0 + m < 2 ^ 31) (hr : ∀ x, r = some x → n0 + x.2 < 2 ^ 31) : jq r c m = some (c, m) := by
  cases r with
  | none => rfl
  | some x =>
    have h1 : ¬ n0 + m ≤ n0 + x.2 := fun q => h ((nI_leI hm (hr x rfl)).mpr q)
    show (if x.2 < m then some (c, m) else some x) = _
    rw [if_pos (by omega)]
theorem jqs_lt {f : Nat → Nat} {b : Nat} (hf : ∀ i, f i < b) (n : Nat) : ∀ x, jqs f n = some x → x.2 < b := by
  induction n with
  | zero => intro x h; cases h
  | succ n ih =>
    intro x h
    have h : jq (jqs f n) n (f n) = some x := h
    cases hr : jqs f n with
    | none => rw [hr] at h; cases h; exact hf n
    | some y =>
      rw [hr] at h
      have h : (if y.2 < f n then some (n, f n) else some y) = some x := h
      split at h
      · cases h; exact hf n
      · cases h; exact ih _ hr
theorem jqs_some (f : Nat → Nat) (n : Nat) : ∃ x, jqs f (n + 1) = some x := by
  show ∃ x, jq (jqs f n) n (f n) = some x
  cases jqs f n with
  | none => exact ⟨_, rfl⟩
  | some y =>
    show ∃ x, (if y.2 < f n then some (n, f n) else some y) = some x
    split <;> exact ⟨_, rfl⟩
theorem pw_count_le (f : Nat → Bool) : pw_count f < 5 := by
  unfold pw_count
  cases f 0 <;> cases f 1 <;> cases f 2 <;> cases f 3 <;> decide
theorem nb_lt {p q : pw} (hq : q.2.2 9 ≤ 9999) (n : Nat) : nb p q n < 10000 := by
  have := (pw_days_name hq n).2
  unfold nb
  omega
theorem nb_eq {p q : pw} (hp : p.2.2 9 ≤ 9999) (hq : q.2.2 9 = p.2.2 9) (n : Nat) : (pw_days q n).2.2 9 = p.2.2 9 + nb p q n := by
  have := (pw_days_name (p := q) (by omega) n).1
  unfold nb
  omega
theorem jd_le {r : Option Nat × Nat} {c m : Nat} (h : m ≤ r.2) : jd r c m = r := if_neg (by omega)
theorem jd_gt {r : Option Nat × Nat} {c m : Nat} (h : ¬ m ≤ r.2) : jd r c m = (some c, m) := if_pos (by omega)
theorem jd_lt {r : Option Nat × Nat} {c m b : Nat} (hr : r.2 < b) (hm : m < b) : (jd r c m).2 < b := by
  unfold jd
  split
  · exact hm
  · exact hr
theorem cd_ne {c : Nat} (h : c < 2 ^ 31) : ¬ nI c = -4 := fun q => nI_pos h (by rw [q]; decide +kernel)
set_option maxHeartbeats 4000000 in
set_option maxRecDepth 100000 in
theorem c_G_firstPairing {G : gx_G} {σ : gs_S} {Q : Option Value → gx_Hp → Prop} {p : pw} {t : gs_Ob} (d : Nat) (x : Int32) (T : (Nat → Bool) → Bool) {n : Nat} (hT : ∀ f, nI (pw_bits f) &&& x = 0 ↔ T f = false) (hw : wR t p) (hO : pOk p) (hn : p.2.2 10 + n + 1 < 2 ^ 30) (hq : ∀ t1, Q (some (.int (fp T p (n + 1) 0))) (hp G (gs_set σ 5 1 t1))) : gx_K G yX6_firstPairing mX6_firstPairing (d + 6) 0 0 [.ref (gs_a G 6 0 0), .int x, .int (nI n)] (hp G (gs_set σ 5 1 t)) Q := by
  have loop : ∀ k m p1 t1, n + 1 - m < k → m ≤ n + 1 → wR t1 p1 → pOk p1 → p1.2.2 10 + (n + 1 - m) < 2 ^ 30 → fp T p1 (n + 1 - m) m = fp T p (n + 1) 0 → gx_J G mX6_firstPairing (d + 6) 0 0 Q 2 [(0, .ref (gs_a G 6 0 0)), (1, .int x), (2, .int (nI n)), (3, .int (nI m))] [] (hp G (gs_set σ 5 1 t1)) := by
    intro k
    induction k with
    | zero => intros; exact absurd (by assumption) (Nat.not_lt_zero _)
    | succ k ih =>
      intro m p1 t1 hk hm hw1 hO1 hd1 hf
      refine J_iload_n (i := 3) (n := 3) dX6_firstPairing_2 rfl rfl rfl ?_
      refine J_iload_n (i := 2) (n := 4) dX6_firstPairing_3 rfl rfl rfl ?_
      refine J_icmp_gt (tgt := 35) (n := 7) dX6_firstPairing_4 (by decide) rfl (fun c_4 => ?_) (fun c_4 => ?_)
      · refine J_bipush (n := 37) dX6_firstPairing_35 kB_m4 rfl ?_
        refine J_iret dX6_firstPairing_37 rfl (kN_i _) ?_
        rw [nI_ltI (by omega) (by omega)] at c_4
        rw [show n + 1 - m = 0 by omega] at hf
        have hf : (-4 : Int32) = _ := hf
        rw [hf]
        exact hq _
      · rw [nI_ltI (by omega) (by omega)] at c_4
        rw [show n + 1 - m = (n + 1 - (m + 1)) + 1 by omega] at hf
        refine J_aload_n (i := 0) (n := 8) dX6_firstPairing_7 rfl rfl rfl ?_
        refine T_getO (k := 2) (n := 11) wk_X6 dX6_firstPairing_8 wf_X6_23 (by decide) (by first | assumption | decide) rfl rfl ?_
        refine T_get (k := 5) (n := 14) wk_X5 dX6_firstPairing_11 wf_X6_111 (by decide) (by first | assumption | decide) rfl rfl ?_
        rw [hw1.2.2.2.1]
        refine J_iload_n (i := 1) (n := 15) dX6_firstPairing_14 rfl rfl rfl ?_
        refine J_iand (n := 16) dX6_firstPairing_15 rfl ?_
        refine J_if_eq (tgt := 21) (n := 19) dX6_firstPairing_16 (by decide) rfl (fun c_16 => ?_) (fun c_16 => ?_)
        · rw [hT] at c_16
          have hf : (if T p1.2.1 = true then nI m else _) = _ := hf
          rw [if_neg (by rw [c_16]; decide)] at hf
          refine J_aload_n (i := 0) (n := 22) dX6_firstPairing_21 rfl rfl rfl ?_
          refine T_getO (k := 2) (n := 25) wk_X6 dX6_firstPairing_22 wf_X6_23 (by decide) (by first | assumption | decide) rfl rfl ?_
          refine J_iconst (n := 26) dX6_firstPairing_25 kI_1 rfl ?_
          refine J_callVx (n := 29) wS_X5_passDays (c_W_passDays (Q := fun r h => r = none ∧ ∃ t2, wR t2 (pw_days p1 1) ∧ h = hp G (gs_set σ 5 1 t2)) (d) (i := 1) (by decide) hw1 hO1 (by omega) (fun t2 h2 => ⟨rfl, t2, h2, rfl⟩)) dX6_firstPairing_26 wm_X6_170 ⟨wM_X5_passDays, wV_X5_passDays⟩ rfl (T_recv (by decide) (by first | assumption | decide)) rfl rfl (Nat.le_of_ble_eq_true rfl) rfl (fun r h1 hq1 => ?_)
          obtain ⟨rfl, t2, hw2, rfl⟩ := hq1
          refine J_inc (i := 3) (n := 32) (lv' := [(0, _), (1, _), (2, _), (3, _)]) dX6_firstPairing_29 rfl (by decide) rfl rfl ?_
          refine J_goto (tgt := 2) dX6_firstPairing_32 (by decide) ?_
          exact ih (m + 1) _ t2 (by omega) (by omega) hw2 (pw_days_ok hO1 1) (by rw [pw_days_day]; omega) hf
        · rw [hT] at c_16
          have hf : (if T p1.2.1 = true then nI m else _) = _ := hf
          rw [if_pos (by cases e : T p1.2.1 with | true => rfl | false => exact absurd e c_16)] at hf
          refine J_iload_n (i := 3) (n := 20) dX6_firstPairing_19 rfl rfl rfl ?_
          refine J_iret dX6_firstPairing_20 rfl (kN_i _) ?_
          rw [hf]
          exact hq _
  refine gx_K.of' (lv := [(0, _), (1, _), (2, _)]) (by decide) rfl (by decide) (Nat.le_of_ble_eq_true rfl) rfl ?_
  refine J_iconst (n := 1) dX6_firstPairing_0 kI_0 rfl ?_
  refine J_istore_n (i := 3) (n := 2) (lv' := [(0, _), (1, _), (2, _), (3, _)]) dX6_firstPairing_1 rfl (by decide) rfl rfl ?_
  exact loop (n + 2) 0 p t (by omega) (by omega) hw hO (by omega) rfl

set_option maxHeartbeats 4000000 in
set_option maxRecDepth 100000 in
theorem c_G_nameBehind {G : gx_G} {σ : gs_S} {Q : Option Value → gx_Hp → Prop} {p : pw} {t : gs_Ob} (d : Nat) {n : Nat} (hw0 : wR (σ 5 0) p) (hO : pOk p) (hn : p.2.2 10 + n < 2 ^ 30) (hq : ∀ t1, Q (some (.int (nI ((pw_days p n).2.2 9)))) (hp G (gs_set σ 5 1 t1))) : gx_K G yX6_nameBehind mX6_nameBehind (d + 6) 0 0 [.ref (gs_a G 6 0 0), .int (nI n)] (hp G (gs_set σ 5 1 t)) Q := by
  refine gx_K.of' (lv := [(0, _), (1, _)]) (by decide) rfl (by decide) (Nat.le_of_ble_eq_true rfl) rfl ?_
  refine J_aload_n (i := 0) (n := 1) dX6_nameBehind_0 rfl rfl rfl ?_
  refine T_getO (k := 2) (n := 4) wk_X6 dX6_nameBehind_1 wf_X6_23 (by decide) (by first | assumption | decide) rfl rfl ?_
  refine J_aload_n (i := 0) (n := 5) dX6_nameBehind_4 rfl rfl rfl ?_
  refine T_getO (k := 0) (n := 8) wk_X6 dX6_nameBehind_5 wf_X6_10 (by decide) (by first | assumption | decide) rfl rfl ?_
  refine J_callVx (n := 11) wS_X5_become (c_W_become (Q := fun r h => r = none ∧ ∃ t1, wR t1 p ∧ h = hp G (gs_set σ 5 1 t1)) (d + 4) (i := 1) (j := 0) (by decide) (by decide) (by decide) hw0 hO (fun t1 h1 => ⟨rfl, t1, h1, rfl⟩)) dX6_nameBehind_8 wm_X6_85 ⟨wM_X5_become, wV_X5_become⟩ rfl (T_recv (by decide) (by first | assumption | decide)) rfl rfl (Nat.le_of_ble_eq_true rfl) rfl (fun r h1 hq1 => ?_)
  obtain ⟨rfl, t1, hw1, rfl⟩ := hq1
  refine J_aload_n (i := 0) (n := 12) dX6_nameBehind_11 rfl rfl rfl ?_
  refine T_getO (k := 2) (n := 15) wk_X6 dX6_nameBehind_12 wf_X6_23 (by decide) (by first | assumption | decide) rfl rfl ?_
  refine J_iload_n (i := 1) (n := 16) dX6_nameBehind_15 rfl rfl rfl ?_
  refine J_callVx (n := 19) wS_X5_passDays (c_W_passDays (Q := fun r h => r = none ∧ ∃ t2, wR t2 (pw_days p n) ∧ h = hp G (gs_set σ 5 1 t2)) (d) (i := 1) (by decide) hw1 hO hn (fun t2 h2 => ⟨rfl, t2, h2, rfl⟩)) dX6_nameBehind_16 wm_X6_170 ⟨wM_X5_passDays, wV_X5_passDays⟩ rfl (T_recv (by decide) (by first | assumption | decide)) rfl rfl (Nat.le_of_ble_eq_true rfl) rfl (fun r h1 hq1 => ?_)
  obtain ⟨rfl, t2, hw2, rfl⟩ := hq1
  refine J_aload_n (i := 0) (n := 20) dX6_nameBehind_19 rfl rfl rfl ?_
  refine T_getO (k := 2) (n := 23) wk_X6 dX6_nameBehind_20 wf_X6_23 (by decide) (by first | assumption | decide) rfl rfl ?_
  refine T_get (k := 9) (n := 26) wk_X5 dX6_nameBehind_23 wf_X6_108 (by decide) (by first | assumption | decide) rfl rfl ?_
  refine J_iret dX6_nameBehind_26 rfl (kN_i _) ?_
  rw [hw2.2.2.2.2 9 (by decide) (by decide)]
  exact hq _

set_option maxHeartbeats 4000000 in
set_option maxRecDepth 100000 in
theorem c_G_nameWithSwap {G : gx_G} {σ : gs_S} {Q : Option Value → gx_Hp → Prop} {p : pw} {t : gs_Ob} (d : Nat) {i j n : Nat} (hw0 : wR (σ 5 0) p) (hO : pOk p) (hi : i < p.2.2 7) (hj : j < p.2.2 7) (hn : p.2.2 10 + n < 2 ^ 30) (hq : ∀ t1, Q (some (.int (nI ((pw_days (pw_sw p i j) n).2.2 9)))) (hp G (gs_set σ 5 1 t1))) : gx_K G yX6_nameWithSwap mX6_nameWithSwap (d + 6) 0 0 [.ref (gs_a G 6 0 0), .int (nI i), .int (nI j), .int (nI n)] (hp G (gs_set σ 5 1 t)) Q := by
  have h6 : p.2.2 7 ≤ 6 := hO.2.2.2.2.2.1
  have ri := hw0.2.2.1 i hi
  have rj := hw0.2.2.1 j hj
  refine gx_K.of' (lv := [(0, _), (1, _), (2, _), (3, _)]) (by decide) rfl (by decide) (Nat.le_of_ble_eq_true rfl) rfl ?_
  refine J_aload_n (i := 0) (n := 1) dX6_nameWithSwap_0 rfl rfl rfl ?_
  refine T_getO (k := 2) (n := 4) wk_X6 dX6_nameWithSwap_1 wf_X6_23 (by decide) (by first | assumption | decide) rfl rfl ?_
  refine J_aload_n (i := 0) (n := 5) dX6_nameWithSwap_4 rfl rfl rfl ?_
  refine T_getO (k := 0) (n := 8) wk_X6 dX6_nameWithSwap_5 wf_X6_10 (by decide) (by first | assumption | decide) rfl rfl ?_
  refine J_callVx (n := 11) wS_X5_become (c_W_become (Q := fun r h => r = none ∧ ∃ t1, wR t1 p ∧ h = hp G (gs_set σ 5 1 t1)) (d + 4) (i := 1) (j := 0) (by decide) (by decide) (by decide) hw0 hO (fun t1 h1 => ⟨rfl, t1, h1, rfl⟩)) dX6_nameWithSwap_8 wm_X6_85 ⟨wM_X5_become, wV_X5_become⟩ rfl (T_recv (by decide) (by first | assumption | decide)) rfl rfl (Nat.le_of_ble_eq_true rfl) rfl (fun r h1 hq1 => ?_)
  obtain ⟨rfl, t1, hw1, rfl⟩ := hq1
  refine J_aload_n (i := 0) (n := 12) dX6_nameWithSwap_11 rfl rfl rfl ?_
  refine T_getO (k := 2) (n := 15) wk_X6 dX6_nameWithSwap_12 wf_X6_23 (by decide) (by first | assumption | decide) rfl rfl ?_
  refine T_get (k := 4) (n := 18) wk_X5 dX6_nameWithSwap_15 wf_X6_155 (by decide) (by first | assumption | decide) rfl rfl ?_
  refine J_iload_n (i := 1) (n := 19) dX6_nameWithSwap_18 rfl rfl rfl ?_
  refine J_aload_n (i := 0) (n := 20) dX6_nameWithSwap_19 rfl rfl rfl ?_
  refine T_getO (k := 0) (n := 23) wk_X6 dX6_nameWithSwap_20 wf_X6_10 (by decide) (by first | assumption | decide) rfl rfl ?_
  refine T_getO (k := 4) (n := 26) wk_X5 dX6_nameWithSwap_23 wf_X6_155 (by decide) (by first | assumption | decide) rfl rfl ?_
  refine J_iload_n (i := 2) (n := 27) dX6_nameWithSwap_26 rfl rfl rfl ?_
  refine T_ialdO (c := 5) (k := 4) (N := 6) (n := 28) dX6_nameWithSwap_27 (by decide) (by first | assumption | decide) rfl (vp_in_nI (by omega) (by decide)) rfl ?_
  rw [nI_clamp (by omega), gs_neI (by decide : (0 : Nat) ≠ 1), rj]
  refine T_iast (c := 5) (k := 4) (N := 6) (n := 29) dX6_nameWithSwap_28 (by decide) (by first | assumption | decide) (fun _ => rfl) (vp_in_nI (by omega) (by decide)) rfl ?_
  rw [nI_clamp (by omega)]
  have hw3 := hw1.row 4 i (p.1 4 j)
  generalize gs_w t1 4 (upd (t1.1 4) i (nI (p.1 4 j))) = t3 at hw3 ⊢
  refine J_aload_n (i := 0) (n := 30) dX6_nameWithSwap_29 rfl rfl rfl ?_
  refine T_getO (k := 2) (n := 33) wk_X6 dX6_nameWithSwap_30 wf_X6_23 (by decide) (by first | assumption | decide) rfl rfl ?_
  refine T_get (k := 4) (n := 36) wk_X5 dX6_nameWithSwap_33 wf_X6_155 (by decide) (by first | assumption | decide) rfl rfl ?_
  refine J_iload_n (i := 2) (n := 37) dX6_nameWithSwap_36 rfl rfl rfl ?_
  refine J_aload_n (i := 0) (n := 38) dX6_nameWithSwap_37 rfl rfl rfl ?_
  refine T_getO (k := 0) (n := 41) wk_X6 dX6_nameWithSwap_38 wf_X6_10 (by decide) (by first | assumption | decide) rfl rfl ?_
  refine T_getO (k := 4) (n := 44) wk_X5 dX6_nameWithSwap_41 wf_X6_155 (by decide) (by first | assumption | decide) rfl rfl ?_
  refine J_iload_n (i := 1) (n := 45) dX6_nameWithSwap_44 rfl rfl rfl ?_
  refine T_ialdO (c := 5) (k := 4) (N := 6) (n := 46) dX6_nameWithSwap_45 (by decide) (by first | assumption | decide) rfl (vp_in_nI (by omega) (by decide)) rfl ?_
  rw [nI_clamp (by omega), gs_neI (by decide : (0 : Nat) ≠ 1), ri]
  refine T_iast (c := 5) (k := 4) (N := 6) (n := 47) dX6_nameWithSwap_46 (by decide) (by first | assumption | decide) (fun _ => rfl) (vp_in_nI (by omega) (by decide)) rfl ?_
  rw [nI_clamp (by omega)]
  have hw4 : wR (gs_w t3 4 (upd (t3.1 4) j (nI (p.1 4 i)))) (pw_sw p i j) := hw3.row 4 j (p.1 4 i)
  generalize gs_w t3 4 (upd (t3.1 4) j (nI (p.1 4 i))) = t4 at hw4 ⊢
  refine J_aload_n (i := 0) (n := 48) dX6_nameWithSwap_47 rfl rfl rfl ?_
  refine T_getO (k := 2) (n := 51) wk_X6 dX6_nameWithSwap_48 wf_X6_23 (by decide) (by first | assumption | decide) rfl rfl ?_
  refine J_iload_n (i := 3) (n := 52) dX6_nameWithSwap_51 rfl rfl rfl ?_
  refine J_callVx (n := 55) wS_X5_passDays (c_W_passDays (Q := fun r h => r = none ∧ ∃ t2, wR t2 (pw_days (pw_sw p i j) n) ∧ h = hp G (gs_set σ 5 1 t2)) (d) (i := 1) (by decide) hw4 (pw_sw_ok hO hi hj) hn (fun t2 h2 => ⟨rfl, t2, h2, rfl⟩)) dX6_nameWithSwap_52 wm_X6_170 ⟨wM_X5_passDays, wV_X5_passDays⟩ rfl (T_recv (by decide) (by first | assumption | decide)) rfl rfl (Nat.le_of_ble_eq_true rfl) rfl (fun r h1 hq1 => ?_)
  obtain ⟨rfl, t2, hw2, rfl⟩ := hq1
  refine J_aload_n (i := 0) (n := 56) dX6_nameWithSwap_55 rfl rfl rfl ?_
  refine T_getO (k := 2) (n := 59) wk_X6 dX6_nameWithSwap_56 wf_X6_23 (by decide) (by first | assumption | decide) rfl rfl ?_
  refine T_get (k := 9) (n := 62) wk_X5 dX6_nameWithSwap_59 wf_X6_108 (by decide) (by first | assumption | decide) rfl rfl ?_
  refine J_iret dX6_nameWithSwap_62 rfl (kN_i _) ?_
  rw [hw2.2.2.2.2 9 (by decide) (by decide)]
  exact hq _

set_option maxHeartbeats 4000000 in
set_option maxRecDepth 100000 in
theorem c_G_bestDoorOfCall {G : gx_G} {σ : gs_S} {Q : Option Value → gx_Hp → Prop} {p : pw} {t : gs_Ob} (d : Nat) {i n : Nat} (w : Int32) (hw0 : wR (σ 5 0) p) (hO : pOk p) (hi : i ≤ p.2.2 7) (hi6 : i < 6) (hn : p.2.2 10 + n < 2 ^ 30) (hq : ∀ t1, Q (some (.int (aq (jqs (fun e => pw_count (pw_days (pw_ex p i e) n).2.1) 12) w))) (hp G (gs_set σ 5 1 t1))) : gx_K G yX6_bestDoorOfCall mX6_bestDoorOfCall (d + 6) 0 0 [.ref (gs_a G 6 0 0), .int (nI i), .int (nI n), .int w] (hp G (gs_set σ 5 1 t)) Q := by
  have h6 : p.2.2 7 ≤ 6 := hO.2.2.2.2.2.1
  have e7 := hw0.2.2.2.2 7 (by decide) (by decide)
  have hfl : ∀ e, (fun e => pw_count (pw_days (pw_ex p i e) n).2.1) e < 5 := fun e => pw_count_le _
  have loop : ∀ k e t0, 12 - e < k → e ≤ 12 → gx_J G mX6_bestDoorOfCall (d + 6) 0 0 Q 9 [(0, .ref (gs_a G 6 0 0)), (1, .int (nI i)), (2, .int (nI n)), (3, .int w), (4, .int (cm (jqs (fun e => pw_count (pw_days (pw_ex p i e) n).2.1) e) 0)), (5, .int (cb (jqs (fun e => pw_count (pw_days (pw_ex p i e) n).2.1) e))), (6, .int (nI e))] [] (hp G (gs_set σ 5 1 t0)) := by
    intro k
    induction k with
    | zero => intros; exact absurd (by assumption) (Nat.not_lt_zero _)
    | succ k ih =>
      intro e t0 hk he
      refine J_iload (i := 6) (n := 11) dX6_bestDoorOfCall_9 rfl rfl ?_
      refine J_bipush (n := 13) dX6_bestDoorOfCall_11 kB_12 rfl ?_
      refine J_icmp_ge (tgt := 96) (n := 16) dX6_bestDoorOfCall_13 (by decide) rfl (fun c_13 => ?_) (fun c_13 => ?_)
      · refine J_iload_n (i := 3) (n := 97) dX6_bestDoorOfCall_96 rfl rfl rfl ?_
        refine J_if_ne (tgt := 105) (n := 100) dX6_bestDoorOfCall_97 (by decide) rfl (fun c_97 => ?_) (fun c_97 => ?_)
        · refine J_iload (i := 4) (n := 107) dX6_bestDoorOfCall_105 rfl rfl ?_
          refine J_iret dX6_bestDoorOfCall_107 rfl (kN_i _) ?_
          rw [nI_leI (by omega) (by omega)] at c_13
          have ee : e = 12 := by omega
          subst ee
          obtain ⟨x, hx⟩ := jqs_some (fun e => pw_count (pw_days (pw_ex p i e) n).2.1) 11
          have hx : jqs (fun e => pw_count (pw_days (pw_ex p i e) n).2.1) 12 = some x := hx
          rw [hx] at hq ⊢
          first
          | (have h0 := hq t0; rw [aq, if_pos c_97] at h0; exact h0)
          | (have h0 := hq t0; rw [aq, if_neg c_97] at h0; rw [cm, Nat.zero_add]; exact h0)
        · refine J_iload (i := 5) (n := 102) dX6_bestDoorOfCall_100 rfl rfl ?_
          refine J_goto (tgt := 107) dX6_bestDoorOfCall_102 (by decide) ?_
          refine J_iret dX6_bestDoorOfCall_107 rfl (kN_i _) ?_
          rw [nI_leI (by omega) (by omega)] at c_13
          have ee : e = 12 := by omega
          subst ee
          obtain ⟨x, hx⟩ := jqs_some (fun e => pw_count (pw_days (pw_ex p i e) n).2.1) 11
          have hx : jqs (fun e => pw_count (pw_days (pw_ex p i e) n).2.1) 12 = some x := hx
          rw [hx] at hq ⊢
          first
          | (have h0 := hq t0; rw [aq, if_pos c_97] at h0; exact h0)
          | (have h0 := hq t0; rw [aq, if_neg c_97] at h0; rw [cm, Nat.zero_add]; exact h0)
      · rw [nI_leI (by omega) (by omega)] at c_13
        refine J_aload_n (i := 0) (n := 17) dX6_bestDoorOfCall_16 rfl rfl rfl ?_
        refine T_getO (k := 2) (n := 20) wk_X6 dX6_bestDoorOfCall_17 wf_X6_23 (by decide) (by first | assumption | decide) rfl rfl ?_
        refine J_aload_n (i := 0) (n := 21) dX6_bestDoorOfCall_20 rfl rfl rfl ?_
        refine T_getO (k := 0) (n := 24) wk_X6 dX6_bestDoorOfCall_21 wf_X6_10 (by decide) (by first | assumption | decide) rfl rfl ?_
        refine J_callVx (n := 27) wS_X5_become (c_W_become (Q := fun r h => r = none ∧ ∃ t1, wR t1 p ∧ h = hp G (gs_set σ 5 1 t1)) (d + 4) (i := 1) (j := 0) (by decide) (by decide) (by decide) hw0 hO (fun t1 h1 => ⟨rfl, t1, h1, rfl⟩)) dX6_bestDoorOfCall_24 wm_X6_85 ⟨wM_X5_become, wV_X5_become⟩ rfl (T_recv (by decide) (by first | assumption | decide)) rfl rfl (Nat.le_of_ble_eq_true rfl) rfl (fun r h1 hq1 => ?_)
        obtain ⟨rfl, t1, hw1, rfl⟩ := hq1
        refine J_aload_n (i := 0) (n := 28) dX6_bestDoorOfCall_27 rfl rfl rfl ?_
        refine T_getO (k := 2) (n := 31) wk_X6 dX6_bestDoorOfCall_28 wf_X6_23 (by decide) (by first | assumption | decide) rfl rfl ?_
        refine T_get (k := 4) (n := 34) wk_X5 dX6_bestDoorOfCall_31 wf_X6_155 (by decide) (by first | assumption | decide) rfl rfl ?_
        refine J_iload_n (i := 1) (n := 35) dX6_bestDoorOfCall_34 rfl rfl rfl ?_
        refine J_iload (i := 6) (n := 37) dX6_bestDoorOfCall_35 rfl rfl ?_
        refine T_iast (c := 5) (k := 4) (N := 6) (n := 38) dX6_bestDoorOfCall_37 (by decide) (by first | assumption | decide) (fun _ => rfl) (vp_in_nI (by omega) (by decide)) rfl ?_
        rw [nI_clamp (by omega)]
        have hwr := hw1.row 4 i e
        have hr1 : (gs_w t1 4 (upd (t1.1 4) i (nI e))).1 4 i = nI e := by simp [gs_w, va_up, upd]
        generalize gs_w t1 4 (upd (t1.1 4) i (nI e)) = t3 at hwr hr1 ⊢
        refine J_aload_n (i := 0) (n := 39) dX6_bestDoorOfCall_38 rfl rfl rfl ?_
        refine T_getO (k := 2) (n := 42) wk_X6 dX6_bestDoorOfCall_39 wf_X6_23 (by decide) (by first | assumption | decide) rfl rfl ?_
        refine J_aload_n (i := 0) (n := 43) dX6_bestDoorOfCall_42 rfl rfl rfl ?_
        refine T_getO (k := 0) (n := 46) wk_X6 dX6_bestDoorOfCall_43 wf_X6_10 (by decide) (by first | assumption | decide) rfl rfl ?_
        refine T_getO (k := 7) (n := 49) wk_X5 dX6_bestDoorOfCall_46 wf_X6_118 (by decide) (by first | assumption | decide) rfl rfl ?_
        refine J_iload_n (i := 1) (n := 50) dX6_bestDoorOfCall_49 rfl rfl rfl ?_
        refine J_iconst (n := 51) dX6_bestDoorOfCall_50 kI_1 rfl ?_
        refine J_iadd (n := 52) dX6_bestDoorOfCall_51 rfl ?_
        rw [gs_neI (by decide : (0 : Nat) ≠ 1), e7, nI_add]
        refine J_mmax (n := 55) dX6_bestDoorOfCall_52 wm_X6_267 ⟨wT_J9_max_7cf53, wI_J9, wC_J9_max_7cf53⟩ (Nat.le_of_ble_eq_true rfl) rfl ?_
        rw [mx_nI (by omega) (by omega)]
        refine T_putI (k := 7) (n := 58) wk_X5 dX6_bestDoorOfCall_55 wf_X6_118 (by decide) (by first | assumption | decide) (kN_i _) rfl (Nat.le_of_ble_eq_true rfl) rfl rfl ?_
        have hw3 : wR (gs_f t3 7 (nI (max (p.2.2 7) (i + 1)))) (pw_ex p i e) := hwr.calls _ (fun q h1 h2 => by
            have h1 : p.2.2 7 ≤ q := h1
            have eq : q = i := by omega
            subst eq
            rw [hr1]; simp [pw_a])
        generalize gs_f t3 7 (nI (max (p.2.2 7) (i + 1))) = t4 at hw3 ⊢
        refine J_aload_n (i := 0) (n := 59) dX6_bestDoorOfCall_58 rfl rfl rfl ?_
        refine T_getO (k := 2) (n := 62) wk_X6 dX6_bestDoorOfCall_59 wf_X6_23 (by decide) (by first | assumption | decide) rfl rfl ?_
        refine J_iload_n (i := 2) (n := 63) dX6_bestDoorOfCall_62 rfl rfl rfl ?_
        refine J_callVx (n := 66) wS_X5_passDays (c_W_passDays (Q := fun r h => r = none ∧ ∃ t2, wR t2 (pw_days (pw_ex p i e) n) ∧ h = hp G (gs_set σ 5 1 t2)) (d) (i := 1) (by decide) hw3 (pw_ex_ok hO hi hi6 (by omega)) hn (fun t2 h2 => ⟨rfl, t2, h2, rfl⟩)) dX6_bestDoorOfCall_63 wm_X6_170 ⟨wM_X5_passDays, wV_X5_passDays⟩ rfl (T_recv (by decide) (by first | assumption | decide)) rfl rfl (Nat.le_of_ble_eq_true rfl) rfl (fun r h1 hq1 => ?_)
        obtain ⟨rfl, t2, hw2, rfl⟩ := hq1
        refine J_aload_n (i := 0) (n := 67) dX6_bestDoorOfCall_66 rfl rfl rfl ?_
        refine T_getO (k := 2) (n := 70) wk_X6 dX6_bestDoorOfCall_67 wf_X6_23 (by decide) (by first | assumption | decide) rfl rfl ?_
        refine J_callVr (n := 73) wS_X5_metCount (c_W_metCount (d + 4) (i := 1) (by decide) (show wR (gs_set σ 5 1 t2 5 1) _ by rw [gs_same]; exact hw2) ⟨rfl, rfl⟩) dX6_bestDoorOfCall_70 wm_X6_219 ⟨wM_X5_metCount, wV_X5_metCount⟩ rfl (T_recv (by decide) (by first | assumption | decide)) rfl rfl (Nat.le_of_ble_eq_true rfl) rfl ?_
        refine J_istore (i := 7) (n := 75) (lv' := [(0, _), (1, _), (2, _), (3, _), (4, _), (5, _), (6, _), (7, _)]) dX6_bestDoorOfCall_73 (by decide) rfl rfl ?_
        refine J_iload (i := 7) (n := 77) dX6_bestDoorOfCall_75 rfl rfl ?_
        refine J_iload (i := 4) (n := 79) dX6_bestDoorOfCall_77 rfl rfl ?_
        have hjl := jqs_lt hfl e
        refine J_icmp_le (tgt := 90) (n := 82) dX6_bestDoorOfCall_79 (by decide) rfl (fun c_79 => ?_) (fun c_79 => ?_)
        · refine J_inc (i := 6) (n := 93) (lv' := [(0, _), (1, _), (2, _), (3, _), (4, _), (5, _), (6, _), (7, _)]) dX6_bestDoorOfCall_90 rfl (by decide) rfl rfl ?_
          refine J_goto (tgt := 9) dX6_bestDoorOfCall_93 (by decide) ?_
          refine J_sub (lv' := [(0, _), (1, _), (2, _), (3, _), (4, _), (5, _), (6, _)]) (fun q hq => List.mem_append_left [(7, _)] hq) ?_
          first
          | (have hr : jqs (fun e => pw_count (pw_days (pw_ex p i e) n).2.1) (e + 1) = jqs (fun e => pw_count (pw_days (pw_ex p i e) n).2.1) e := jq_le (n0 := 0) (by rw [Nat.zero_add]; exact c_79) (by have := hfl e; omega) (fun x hx => by have := hjl x hx; omega)
             have h0 := ih (e + 1) t2 (by omega) (by omega)
             rw [hr] at h0
             exact h0)
          | (have hr : jqs (fun e => pw_count (pw_days (pw_ex p i e) n).2.1) (e + 1) = some (e, (fun e => pw_count (pw_days (pw_ex p i e) n).2.1) e) := jq_gt (n0 := 0) (by rw [Nat.zero_add]; exact c_79) (by have := hfl e; omega) (fun x hx => by have := hjl x hx; omega)
             have h0 := ih (e + 1) t2 (by omega) (by omega)
             rw [hr, cm, cb, Nat.zero_add] at h0
             exact h0)
        · refine J_iload (i := 7) (n := 84) dX6_bestDoorOfCall_82 rfl rfl ?_
          refine J_istore (i := 4) (n := 86) (lv' := [(0, _), (1, _), (2, _), (3, _), (4, _), (5, _), (6, _), (7, _)]) dX6_bestDoorOfCall_84 (by decide) rfl rfl ?_
          refine J_iload (i := 6) (n := 88) dX6_bestDoorOfCall_86 rfl rfl ?_
          refine J_istore (i := 5) (n := 90) (lv' := [(0, _), (1, _), (2, _), (3, _), (4, _), (5, _), (6, _), (7, _)]) dX6_bestDoorOfCall_88 (by decide) rfl rfl ?_
          refine J_inc (i := 6) (n := 93) (lv' := [(0, _), (1, _), (2, _), (3, _), (4, _), (5, _), (6, _), (7, _)]) dX6_bestDoorOfCall_90 rfl (by decide) rfl rfl ?_
          refine J_goto (tgt := 9) dX6_bestDoorOfCall_93 (by decide) ?_
          refine J_sub (lv' := [(0, _), (1, _), (2, _), (3, _), (4, _), (5, _), (6, _)]) (fun q hq => List.mem_append_left [(7, _)] hq) ?_
          first
          | (have hr : jqs (fun e => pw_count (pw_days (pw_ex p i e) n).2.1) (e + 1) = jqs (fun e => pw_count (pw_days (pw_ex p i e) n).2.1) e := jq_le (n0 := 0) (by rw [Nat.zero_add]; exact c_79) (by have := hfl e; omega) (fun x hx => by have := hjl x hx; omega)
             have h0 := ih (e + 1) t2 (by omega) (by omega)
             rw [hr] at h0
             exact h0)
          | (have hr : jqs (fun e => pw_count (pw_days (pw_ex p i e) n).2.1) (e + 1) = some (e, (fun e => pw_count (pw_days (pw_ex p i e) n).2.1) e) := jq_gt (n0 := 0) (by rw [Nat.zero_add]; exact c_79) (by have := hfl e; omega) (fun x hx => by have := hjl x hx; omega)
             have h0 := ih (e + 1) t2 (by omega) (by omega)
             rw [hr, cm, cb, Nat.zero_add] at h0
             exact h0)
  refine gx_K.of' (lv := [(0, _), (1, _), (2, _), (3, _)]) (by decide) rfl (by decide) (Nat.le_of_ble_eq_true rfl) rfl ?_
  refine J_iconst (n := 1) dX6_bestDoorOfCall_0 kI_m1 rfl ?_
  refine J_istore (i := 4) (n := 3) (lv' := [(0, _), (1, _), (2, _), (3, _), (4, _)]) dX6_bestDoorOfCall_1 (by decide) rfl rfl ?_
  refine J_iconst (n := 4) dX6_bestDoorOfCall_3 kI_0 rfl ?_
  refine J_istore (i := 5) (n := 6) (lv' := [(0, _), (1, _), (2, _), (3, _), (4, _), (5, _)]) dX6_bestDoorOfCall_4 (by decide) rfl rfl ?_
  refine J_iconst (n := 7) dX6_bestDoorOfCall_6 kI_0 rfl ?_
  refine J_istore (i := 6) (n := 9) (lv' := [(0, _), (1, _), (2, _), (3, _), (4, _), (5, _), (6, _)]) dX6_bestDoorOfCall_7 (by decide) rfl rfl ?_
  exact loop 13 0 t (by omega) (by omega)

