theorem nb_0 (b : Bool) : nI b.toNat = 0 ↔ b = false := by cases b <;> decide +kernel
theorem bits_ext {f g : Nat → Bool} (h : ∀ q, q < 4 → f q = g q) : pw_bits f = pw_bits g := by
  unfold pw_bits
  rw [h 0 (by decide), h 1 (by decide), h 2 (by decide), h 3 (by decide)]
theorem bl_0 (F : Nat → Bool) : nI 0 = nI (pw_bits (fun q => decide (q < 0) && F q)) := by simp [pw_bits]
theorem bl_t {F : Nat → Bool} {g : Nat} (hg : g < 4) (h : F g = true) : nI (pw_bits (fun q => decide (q < g) && F q)) ||| (nI 1 <<< (nI g &&& 31)) = nI (pw_bits (fun q => decide (q < g + 1) && F q)) := by
  rw [bs_set _ hg]
  refine congrArg nI (bits_ext fun q _ => ?_)
  by_cases e : q = g
  · subst e; simp [h]
  · simp only [e, if_false]
    congr 1
    exact decide_eq_decide.mpr (by omega)
theorem bl_f {F : Nat → Bool} {g : Nat} (h : F g = false) : nI (pw_bits (fun q => decide (q < g) && F q)) = nI (pw_bits (fun q => decide (q < g + 1) && F q)) := by
  refine congrArg nI (bits_ext fun q _ => ?_)
  by_cases e : q = g
  · subst e; simp [h]
  · congr 1
    exact decide_eq_decide.mpr (by omega)
def pw_cold (p : pw) (q : Nat) : Bool := decide (p.1 3 q = 0) && !p.2.1 q
theorem fr_1 : ∀ a, a < 12 → ∀ b, b < 12 → nI b ≤ nI a → nI 12 - (nI a - nI b) ≤ nI a - nI b → nI 12 - (nI a - nI b) = nI (pw_far a b) := by decide +kernel
theorem fr_2 : ∀ a, a < 12 → ∀ b, b < 12 → nI b ≤ nI a → ¬ nI 12 - (nI a - nI b) ≤ nI a - nI b → nI a - nI b = nI (pw_far a b) := by decide +kernel
theorem fr_3 : ∀ a, a < 12 → ∀ b, b < 12 → ¬ nI b ≤ nI a → nI 12 - (nI b - nI a) ≤ nI b - nI a → nI 12 - (nI b - nI a) = nI (pw_far a b) := by decide +kernel
theorem fr_4 : ∀ a, a < 12 → ∀ b, b < 12 → ¬ nI b ≤ nI a → ¬ nI 12 - (nI b - nI a) ≤ nI b - nI a → nI b - nI a = nI (pw_far a b) := by decide +kernel
theorem far_lt : ∀ a, a < 12 → ∀ b, b < 12 → pw_far a b < 7 := by decide +kernel
theorem st_all : ∀ a, a < 12 → nI a + nI 1 - (nI a + nI 1) / nI 12 * nI 12 = nI ((a + 1) % 12) ∧ nI a + nI 12 - nI 1 - (nI a + nI 12 - nI 1) / nI 12 * nI 12 = nI ((a + 11) % 12) ∧ nI ((a + 1) % 12) + nI 1 - (nI ((a + 1) % 12) + nI 1) / nI 12 * nI 12 = nI ((a + 2) % 12) := by decide +kernel
theorem wm_all : ∀ a, a < 21 → (if nI 20 < nI a + nI 1 then nI 20 else nI a + nI 1) = nI (min (a + 1) 20) := by decide +kernel
theorem nm_all {a b : Nat} (ha : a ≤ 9999) (hb : b ≤ 9) : (if nI 9999 < nI a + nI b then nI 9999 else nI a + nI b) = nI (min (a + b) 9999) := by
  rw [nI_add]
  by_cases h : 9999 < a + b
  · rw [if_pos (nI_lt h (by omega)), Nat.min_eq_right (by omega)]
  · rw [if_neg (nI_nlt (by omega) (by omega)), Nat.min_eq_left (by omega)]
set_option maxHeartbeats 4000000 in
set_option maxRecDepth 100000 in
theorem c_farOf {G : gx_G} {h : gx_Hp} {Q : Option Value → gx_Hp → Prop} (d : Nat) {a b : Nat} (ha : a < 12) (hb : b < 12) (hq : Q (some (.int (nI (pw_far a b)))) h) : gx_K G yX6_farOf mX6_farOf (d + 1) 0 0 [.int (nI a), .int (nI b)] h Q := by
  refine gx_K.of' (lv := [(0, _), (1, _)]) (by decide) rfl (by decide) (Nat.le_of_ble_eq_true rfl) rfl ?_
  refine J_iload_n (i := 0) (n := 1) dX6_farOf_0 rfl rfl rfl ?_
  refine J_iload_n (i := 1) (n := 2) dX6_farOf_1 rfl rfl rfl ?_
  refine J_icmp_ge (tgt := 11) (n := 5) dX6_farOf_2 (by decide) rfl (fun c_2 => ?_) (fun c_2 => ?_)
  · refine J_iload_n (i := 0) (n := 12) dX6_farOf_11 rfl rfl rfl ?_
    refine J_iload_n (i := 1) (n := 13) dX6_farOf_12 rfl rfl rfl ?_
    refine J_isub (n := 14) dX6_farOf_13 rfl ?_
    refine J_istore_n (i := 2) (n := 15) (lv' := [(0, _), (1, _), (2, _)]) dX6_farOf_14 rfl (by decide) rfl rfl ?_
    refine J_iload_n (i := 2) (n := 16) dX6_farOf_15 rfl rfl rfl ?_
    refine J_bipush (n := 18) dX6_farOf_16 kB_12 rfl ?_
    refine J_iload_n (i := 2) (n := 19) dX6_farOf_18 rfl rfl rfl ?_
    refine J_isub (n := 20) dX6_farOf_19 rfl ?_
    refine J_icmp_ge (tgt := 27) (n := 23) dX6_farOf_20 (by decide) rfl (fun c_20 => ?_) (fun c_20 => ?_)
    · refine J_bipush (n := 29) dX6_farOf_27 kB_12 rfl ?_
      refine J_iload_n (i := 2) (n := 30) dX6_farOf_29 rfl rfl rfl ?_
      refine J_isub (n := 31) dX6_farOf_30 rfl ?_
      refine J_iret dX6_farOf_31 rfl (kN_i _) ?_
      first
      | (rw [fr_1 a ha b hb c_2 c_20]; exact hq)
      | (rw [fr_2 a ha b hb c_2 c_20]; exact hq)
      | (rw [fr_3 a ha b hb c_2 c_20]; exact hq)
      | (rw [fr_4 a ha b hb c_2 c_20]; exact hq)
    · refine J_iload_n (i := 2) (n := 24) dX6_farOf_23 rfl rfl rfl ?_
      refine J_goto (tgt := 31) dX6_farOf_24 (by decide) ?_
      refine J_iret dX6_farOf_31 rfl (kN_i _) ?_
      first
      | (rw [fr_1 a ha b hb c_2 c_20]; exact hq)
      | (rw [fr_2 a ha b hb c_2 c_20]; exact hq)
      | (rw [fr_3 a ha b hb c_2 c_20]; exact hq)
      | (rw [fr_4 a ha b hb c_2 c_20]; exact hq)
  · refine J_iload_n (i := 1) (n := 6) dX6_farOf_5 rfl rfl rfl ?_
    refine J_iload_n (i := 0) (n := 7) dX6_farOf_6 rfl rfl rfl ?_
    refine J_isub (n := 8) dX6_farOf_7 rfl ?_
    refine J_goto (tgt := 14) dX6_farOf_8 (by decide) ?_
    refine J_istore_n (i := 2) (n := 15) (lv' := [(0, _), (1, _), (2, _)]) dX6_farOf_14 rfl (by decide) rfl rfl ?_
    refine J_iload_n (i := 2) (n := 16) dX6_farOf_15 rfl rfl rfl ?_
    refine J_bipush (n := 18) dX6_farOf_16 kB_12 rfl ?_
    refine J_iload_n (i := 2) (n := 19) dX6_farOf_18 rfl rfl rfl ?_
    refine J_isub (n := 20) dX6_farOf_19 rfl ?_
    refine J_icmp_ge (tgt := 27) (n := 23) dX6_farOf_20 (by decide) rfl (fun c_20 => ?_) (fun c_20 => ?_)
    · refine J_bipush (n := 29) dX6_farOf_27 kB_12 rfl ?_
      refine J_iload_n (i := 2) (n := 30) dX6_farOf_29 rfl rfl rfl ?_
      refine J_isub (n := 31) dX6_farOf_30 rfl ?_
      refine J_iret dX6_farOf_31 rfl (kN_i _) ?_
      first
      | (rw [fr_1 a ha b hb c_2 c_20]; exact hq)
      | (rw [fr_2 a ha b hb c_2 c_20]; exact hq)
      | (rw [fr_3 a ha b hb c_2 c_20]; exact hq)
      | (rw [fr_4 a ha b hb c_2 c_20]; exact hq)
    · refine J_iload_n (i := 2) (n := 24) dX6_farOf_23 rfl rfl rfl ?_
      refine J_goto (tgt := 31) dX6_farOf_24 (by decide) ?_
      refine J_iret dX6_farOf_31 rfl (kN_i _) ?_
      first
      | (rw [fr_1 a ha b hb c_2 c_20]; exact hq)
      | (rw [fr_2 a ha b hb c_2 c_20]; exact hq)
      | (rw [fr_3 a ha b hb c_2 c_20]; exact hq)
      | (rw [fr_4 a ha b hb c_2 c_20]; exact hq)

set_option maxHeartbeats 4000000 in
set_option maxRecDepth 100000 in
theorem c_W_isPaired {G : gx_G} {σ : gs_S} {Q : Option Value → gx_Hp → Prop} {p : pw} (d : Nat) {i j : Nat} (hi : i < gs_cnt 5) (hw : wR (σ 5 i) p) (hj : j < 4) (hq : Q (some (.int (nI (p.2.1 j).toNat))) (hp G σ)) : gx_K G yX5_isPaired mX5_isPaired d 0 0 [.ref (gs_a G 5 i 0), .int (nI j)] (hp G σ) Q := by
  have hb := bt_test p.2.1 hj
  refine gx_K.of' (lv := [(0, _), (1, _)]) (by decide) rfl (by decide) (Nat.le_of_ble_eq_true rfl) rfl ?_
  refine J_aload_n (i := 0) (n := 1) dX5_isPaired_0 rfl rfl rfl ?_
  refine T_getO (k := 5) (n := 4) wk_X5 dX5_isPaired_1 wf_X5_33 (by decide) (by first | assumption | decide) rfl rfl ?_
  refine J_iload_n (i := 1) (n := 5) dX5_isPaired_4 rfl rfl rfl ?_
  refine J_ishr (n := 6) dX5_isPaired_5 rfl ?_
  refine J_iconst (n := 7) dX5_isPaired_6 kI_1 rfl ?_
  refine J_iand (n := 8) dX5_isPaired_7 rfl ?_
  refine J_iconst (n := 9) dX5_isPaired_8 kI_1 rfl ?_
  refine J_icmp_ne (tgt := 16) (n := 12) dX5_isPaired_9 (by decide) rfl (fun c_9 => ?_) (fun c_9 => ?_)
  · refine J_iconst (n := 17) dX5_isPaired_16 kI_0 rfl ?_
    refine J_iret dX5_isPaired_17 rfl (by first | exact kN_0 | exact kN_1) ?_
    rw [hw.2.2.2.1, hb] at c_9
    cases e : p.2.1 j with
    | true => first | exact absurd e c_9 | (rw [e] at hq; exact hq)
    | false => first | (rw [e] at hq; exact hq) | (rw [e] at c_9; exact absurd c_9 (by decide)) | (rw [e] at c_9; exact absurd (by decide) c_9)
  · refine J_iconst (n := 13) dX5_isPaired_12 kI_1 rfl ?_
    refine J_goto (tgt := 17) dX5_isPaired_13 (by decide) ?_
    refine J_iret dX5_isPaired_17 rfl (by first | exact kN_0 | exact kN_1) ?_
    rw [hw.2.2.2.1, hb] at c_9
    cases e : p.2.1 j with
    | true => first | exact absurd e c_9 | (rw [e] at hq; exact hq)
    | false => first | (rw [e] at hq; exact hq) | (rw [e] at c_9; exact absurd c_9 (by decide)) | (rw [e] at c_9; exact absurd (by decide) c_9)

set_option maxHeartbeats 4000000 in
set_option maxRecDepth 100000 in
theorem c_W_isCold {G : gx_G} {σ : gs_S} {Q : Option Value → gx_Hp → Prop} {p : pw} (d : Nat) {i j : Nat} (hi : i < gs_cnt 5) (hw : wR (σ 5 i) p) (hO : pOk p) (hj : j < p.2.2 6) (hq : Q (some (.int (nI (pw_cold p j).toNat))) (hp G σ)) : gx_K G yX5_isCold mX5_isCold (d + 1) 0 0 [.ref (gs_a G 5 i 0), .int (nI j)] (hp G σ) Q := by
  have h4 : p.2.2 6 ≤ 4 := hO.2.2.2.2.1
  have hwm := hO.2.1 j hj
  have e3 := (hw.2.1 j hj).2.2
  unfold pw_cold at hq
  refine gx_K.of' (lv := [(0, _), (1, _)]) (by decide) rfl (by decide) (Nat.le_of_ble_eq_true rfl) rfl ?_
  refine J_aload_n (i := 0) (n := 1) dX5_isCold_0 rfl rfl rfl ?_
  refine T_getO (k := 3) (n := 4) wk_X5 dX5_isCold_1 wf_X5_21 (by decide) (by first | assumption | decide) rfl rfl ?_
  refine J_iload_n (i := 1) (n := 5) dX5_isCold_4 rfl rfl rfl ?_
  refine T_ialdO (c := 5) (k := 3) (N := 4) (n := 6) dX5_isCold_5 (by decide) (by first | assumption | decide) rfl (vp_in_nI (by omega) (by decide)) rfl ?_
  rw [nI_clamp (by omega), e3]
  refine J_if_ne (tgt := 21) (n := 9) dX5_isCold_6 (by decide) rfl (fun c_6 => ?_) (fun c_6 => ?_)
  · refine J_iconst (n := 22) dX5_isCold_21 kI_0 rfl ?_
    refine J_iret dX5_isCold_22 rfl (by first | exact kN_0 | exact kN_1) ?_
    first
    | (have e0 : p.1 3 j = 0 := by
         rcases Nat.eq_zero_or_pos (p.1 3 j) with q | q
         · exact q
         · exact absurd c_6 (nI_ne0 q (by omega))
       rw [e0] at hq
       rw [nb_0] at c_14
       cases e : p.2.1 j with
       | true => first | (rw [e] at hq; exact hq) | exact absurd (c_14.symm.trans e) (by decide)
       | false => first | (rw [e] at hq; exact hq) | exact absurd e c_14)
    | (have e0 : ¬ p.1 3 j = 0 := fun q => c_6 (by rw [q]; exact nI_0)
       rw [decide_eq_false e0] at hq
       exact hq)
  · refine J_aload_n (i := 0) (n := 10) dX5_isCold_9 rfl rfl rfl ?_
    refine J_iload_n (i := 1) (n := 11) dX5_isCold_10 rfl rfl rfl ?_
    refine J_callVr (n := 14) wS_X5_isPaired (c_W_isPaired d hi hw (by omega : j < 4) ⟨rfl, rfl⟩) dX5_isCold_11 wm_X5_58 ⟨wM_X5_isPaired, wV_X5_isPaired⟩ rfl (T_recv (by decide) (by first | assumption | decide)) rfl rfl (Nat.le_of_ble_eq_true rfl) rfl ?_
    refine J_if_ne (tgt := 21) (n := 17) dX5_isCold_14 (by decide) rfl (fun c_14 => ?_) (fun c_14 => ?_)
    · refine J_iconst (n := 22) dX5_isCold_21 kI_0 rfl ?_
      refine J_iret dX5_isCold_22 rfl (by first | exact kN_0 | exact kN_1) ?_
      first
      | (have e0 : p.1 3 j = 0 := by
           rcases Nat.eq_zero_or_pos (p.1 3 j) with q | q
           · exact q
           · exact absurd c_6 (nI_ne0 q (by omega))
         rw [e0] at hq
         rw [nb_0] at c_14
         cases e : p.2.1 j with
         | true => first | (rw [e] at hq; exact hq) | exact absurd (c_14.symm.trans e) (by decide)
         | false => first | (rw [e] at hq; exact hq) | exact absurd e c_14)
      | (have e0 : ¬ p.1 3 j = 0 := fun q => c_6 (by rw [q]; exact nI_0)
         rw [decide_eq_false e0] at hq
         exact hq)
    · refine J_iconst (n := 18) dX5_isCold_17 kI_1 rfl ?_
      refine J_goto (tgt := 22) dX5_isCold_18 (by decide) ?_
      refine J_iret dX5_isCold_22 rfl (by first | exact kN_0 | exact kN_1) ?_
      first
      | (have e0 : p.1 3 j = 0 := by
           rcases Nat.eq_zero_or_pos (p.1 3 j) with q | q
           · exact q
           · exact absurd c_6 (nI_ne0 q (by omega))
         rw [e0] at hq
         rw [nb_0] at c_14
         cases e : p.2.1 j with
         | true => first | (rw [e] at hq; exact hq) | exact absurd (c_14.symm.trans e) (by decide)
         | false => first | (rw [e] at hq; exact hq) | exact absurd e c_14)
      | (have e0 : ¬ p.1 3 j = 0 := fun q => c_6 (by rw [q]; exact nI_0)
         rw [decide_eq_false e0] at hq
         exact hq)

theorem pc_p {p : pw} {j : Nat} (h : ¬ nI (p.2.1 j).toNat = 0) : p.2.1 j = true := by
  rw [nb_0] at h
  cases e : p.2.1 j with
  | true => rfl
  | false => exact absurd e h
theorem pc_t {p : pw} {j : Nat} (h1 : nI (p.2.1 j).toNat = 0) (h2 : ¬ nI (pw_cold p j).toNat = 0) : p.2.1 j = false ∧ p.1 3 j = 0 := by
  rw [nb_0] at h1 h2
  unfold pw_cold at h2
  refine ⟨h1, ?_⟩
  rw [h1] at h2
  simpa using h2
theorem pc_f {p : pw} {j : Nat} (h1 : nI (p.2.1 j).toNat = 0) (h2 : nI (pw_cold p j).toNat = 0) : p.2.1 j = false ∧ ¬ p.1 3 j = 0 := by
  rw [nb_0] at h1 h2
  unfold pw_cold at h2
  refine ⟨h1, ?_⟩
  rw [h1] at h2
  simpa using h2
theorem n12 : ¬ nI 12 = 0 := nI_ne0 (by decide) (by decide)
theorem nI_k0 {a : Nat} (h : a < 2 ^ 31) : nI a = 0 ↔ a = 0 := (nI_eq h (by decide : (0 : Nat) < 2 ^ 31))
theorem nI_k1 {a : Nat} (h : a < 2 ^ 31) : nI a = 1 ↔ a = 1 := (nI_eq h (by decide : (1 : Nat) < 2 ^ 31))
theorem nI_k2 {a : Nat} (h : a < 2 ^ 31) : nI a = 2 ↔ a = 2 := (nI_eq h (by decide : (2 : Nat) < 2 ^ 31))
set_option maxHeartbeats 4000000 in
set_option maxRecDepth 100000 in
theorem c_W_stepOf {G : gx_G} {σ : gs_S} {Q : Option Value → gx_Hp → Prop} {p : pw} (d : Nat) {i j : Nat} (hi : i < gs_cnt 5) (hw : wR (σ 5 i) p) (hO : pOk p) (hj : j < p.2.2 6) (hq : Q (some (.int (nI (pw_step p j)))) (hp G σ)) : gx_K G yX5_stepOf mX5_stepOf (d + 2) 0 0 [.ref (gs_a G 5 i 0), .int (nI j)] (hp G σ) Q := by
  have h4 : p.2.2 6 ≤ 4 := hO.2.2.2.2.1
  obtain ⟨hk3, ha11, hw20⟩ := hO.2.1 j hj
  have hm11 : p.2.2 8 ≤ 11 := hO.2.2.2.2.2.2.1
  obtain ⟨e1, e2, -⟩ := hw.2.1 j hj
  have e8 := hw.2.2.2.2 8 (by decide) (by decide)
  have hst := st_all (p.1 2 j) (by omega)
  have f1 := far_lt ((p.1 2 j + 1) % 12) (by omega) (p.2.2 8) (by omega)
  have f2 := far_lt ((p.1 2 j + 11) % 12) (by omega) (p.2.2 8) (by omega)
  refine gx_K.of' (lv := [(0, _), (1, _)]) (by decide) rfl (by decide) (Nat.le_of_ble_eq_true rfl) rfl ?_
  refine J_aload_n (i := 0) (n := 1) dX5_stepOf_0 rfl rfl rfl ?_
  refine T_getO (k := 2) (n := 4) wk_X5 dX5_stepOf_1 wf_X5_18 (by decide) (by first | assumption | decide) rfl rfl ?_
  refine J_iload_n (i := 1) (n := 5) dX5_stepOf_4 rfl rfl rfl ?_
  refine T_ialdO (c := 5) (k := 2) (N := 4) (n := 6) dX5_stepOf_5 (by decide) (by first | assumption | decide) rfl (vp_in_nI (by omega) (by decide)) rfl ?_
  rw [nI_clamp (by omega), e2]
  refine J_iconst (n := 7) dX5_stepOf_6 kI_1 rfl ?_
  refine J_iadd (n := 8) dX5_stepOf_7 rfl ?_
  refine J_bipush (n := 10) dX5_stepOf_8 kB_12 rfl ?_
  refine J_irem (n := 11) dX5_stepOf_10 n12 rfl ?_
  rw [hst.1]
  refine J_istore_n (i := 2) (n := 12) (lv' := [(0, _), (1, _), (2, _)]) dX5_stepOf_11 rfl (by decide) rfl rfl ?_
  refine J_aload_n (i := 0) (n := 13) dX5_stepOf_12 rfl rfl rfl ?_
  refine T_getO (k := 2) (n := 16) wk_X5 dX5_stepOf_13 wf_X5_18 (by decide) (by first | assumption | decide) rfl rfl ?_
  refine J_iload_n (i := 1) (n := 17) dX5_stepOf_16 rfl rfl rfl ?_
  refine T_ialdO (c := 5) (k := 2) (N := 4) (n := 18) dX5_stepOf_17 (by decide) (by first | assumption | decide) rfl (vp_in_nI (by omega) (by decide)) rfl ?_
  rw [nI_clamp (by omega), e2]
  refine J_bipush (n := 20) dX5_stepOf_18 kB_12 rfl ?_
  refine J_iadd (n := 21) dX5_stepOf_20 rfl ?_
  refine J_iconst (n := 22) dX5_stepOf_21 kI_1 rfl ?_
  refine J_isub (n := 23) dX5_stepOf_22 rfl ?_
  refine J_bipush (n := 25) dX5_stepOf_23 kB_12 rfl ?_
  refine J_irem (n := 26) dX5_stepOf_25 n12 rfl ?_
  rw [hst.2.1]
  refine J_istore_n (i := 3) (n := 27) (lv' := [(0, _), (1, _), (2, _), (3, _)]) dX5_stepOf_26 rfl (by decide) rfl rfl ?_
  refine J_aload_n (i := 0) (n := 28) dX5_stepOf_27 rfl rfl rfl ?_
  refine T_getO (k := 1) (n := 31) wk_X5 dX5_stepOf_28 wf_X5_15 (by decide) (by first | assumption | decide) rfl rfl ?_
  refine J_iload_n (i := 1) (n := 32) dX5_stepOf_31 rfl rfl rfl ?_
  refine T_ialdO (c := 5) (k := 1) (N := 4) (n := 33) dX5_stepOf_32 (by decide) (by first | assumption | decide) rfl (vp_in_nI (by omega) (by decide)) rfl ?_
  rw [nI_clamp (by omega), e1]
  by_cases e_33_0 : nI (p.1 1 j) = 0
  · rw [e_33_0]
    refine J_tableIn (off := 27) (tgt := 60) dX5_stepOf_33 (by decide) (by decide) (by decide) (by decide) ?_
    refine J_iload_n (i := 2) (n := 61) dX5_stepOf_60 rfl rfl rfl ?_
    refine J_iret dX5_stepOf_61 rfl (kN_i _) ?_
    rw [nI_k0 (by omega)] at e_33_0
    unfold pw_step at hq
    rw [if_pos e_33_0] at hq
    exact hq
  by_cases e_33_1 : nI (p.1 1 j) = 1
  · rw [e_33_1]
    refine J_tableIn (off := 29) (tgt := 62) dX5_stepOf_33 (by decide) (by decide) (by decide) (by decide) ?_
    refine J_iload_n (i := 2) (n := 63) dX5_stepOf_62 rfl rfl rfl ?_
    refine J_iconst (n := 64) dX5_stepOf_63 kI_1 rfl ?_
    refine J_iadd (n := 65) dX5_stepOf_64 rfl ?_
    refine J_bipush (n := 67) dX5_stepOf_65 kB_12 rfl ?_
    refine J_irem (n := 68) dX5_stepOf_67 n12 rfl ?_
    rw [hst.2.2]
    refine J_iret dX5_stepOf_68 rfl (kN_i _) ?_
    rw [nI_k1 (by omega)] at e_33_1
    unfold pw_step at hq
    rw [if_neg (by omega), if_pos e_33_1] at hq
    exact hq
  by_cases e_33_2 : nI (p.1 1 j) = 2
  · rw [e_33_2]
    refine J_tableIn (off := 36) (tgt := 69) dX5_stepOf_33 (by decide) (by decide) (by decide) (by decide) ?_
    refine J_iload_n (i := 3) (n := 70) dX5_stepOf_69 rfl rfl rfl ?_
    refine J_aload_n (i := 0) (n := 71) dX5_stepOf_70 rfl rfl rfl ?_
    refine T_getO (k := 8) (n := 74) wk_X5 dX5_stepOf_71 wf_X5_43 (by decide) (by first | assumption | decide) rfl rfl ?_
    rw [e8]
    refine J_callSNr (n := 77) wS_X6_farOf (c_farOf d (by omega) (by omega) ⟨rfl, rfl⟩) dX5_stepOf_74 wn_X5_71 wT_X6_farOf rfl rfl (Nat.le_of_ble_eq_true rfl) rfl ?_
    refine J_iload_n (i := 2) (n := 78) dX5_stepOf_77 rfl rfl rfl ?_
    refine J_aload_n (i := 0) (n := 79) dX5_stepOf_78 rfl rfl rfl ?_
    refine T_getO (k := 8) (n := 82) wk_X5 dX5_stepOf_79 wf_X5_43 (by decide) (by first | assumption | decide) rfl rfl ?_
    rw [e8]
    refine J_callSNr (n := 85) wS_X6_farOf (c_farOf d (by omega) (by omega) ⟨rfl, rfl⟩) dX5_stepOf_82 wn_X5_71 wT_X6_farOf rfl rfl (Nat.le_of_ble_eq_true rfl) rfl ?_
    refine J_icmp_le (tgt := 92) (n := 88) dX5_stepOf_85 (by decide) rfl (fun c_85 => ?_) (fun c_85 => ?_)
    · refine J_iload_n (i := 2) (n := 93) dX5_stepOf_92 rfl rfl rfl ?_
      refine J_iret dX5_stepOf_93 rfl (kN_i _) ?_
      rw [nI_k2 (by omega)] at e_33_2
      rw [nI_leI (by omega) (by omega)] at c_85
      unfold pw_step at hq
      rw [if_neg (by omega), if_neg (by omega), if_pos e_33_2] at hq
      first | (rw [if_neg (by omega)] at hq; exact hq) | (rw [if_pos (by omega)] at hq; exact hq)
    · refine J_iload_n (i := 3) (n := 89) dX5_stepOf_88 rfl rfl rfl ?_
      refine J_goto (tgt := 93) dX5_stepOf_89 (by decide) ?_
      refine J_iret dX5_stepOf_93 rfl (kN_i _) ?_
      rw [nI_k2 (by omega)] at e_33_2
      rw [nI_leI (by omega) (by omega)] at c_85
      unfold pw_step at hq
      rw [if_neg (by omega), if_neg (by omega), if_pos e_33_2] at hq
      first | (rw [if_neg (by omega)] at hq; exact hq) | (rw [if_pos (by omega)] at hq; exact hq)
  refine J_tableOut (tgt := 94) dX5_stepOf_33 (by have q_0 := lv_neT (a := 0) e_33_0 rfl; have q_1 := lv_neT (a := 1) e_33_1 rfl; have q_2 := lv_neT (a := 2) e_33_2 rfl; omega) (by decide) ?_
  refine J_iload_n (i := 3) (n := 95) dX5_stepOf_94 rfl rfl rfl ?_
  refine J_aload_n (i := 0) (n := 96) dX5_stepOf_95 rfl rfl rfl ?_
  refine T_getO (k := 8) (n := 99) wk_X5 dX5_stepOf_96 wf_X5_43 (by decide) (by first | assumption | decide) rfl rfl ?_
  rw [e8]
  refine J_callSNr (n := 102) wS_X6_farOf (c_farOf d (by omega) (by omega) ⟨rfl, rfl⟩) dX5_stepOf_99 wn_X5_71 wT_X6_farOf rfl rfl (Nat.le_of_ble_eq_true rfl) rfl ?_
  refine J_iload_n (i := 2) (n := 103) dX5_stepOf_102 rfl rfl rfl ?_
  refine J_aload_n (i := 0) (n := 104) dX5_stepOf_103 rfl rfl rfl ?_
  refine T_getO (k := 8) (n := 107) wk_X5 dX5_stepOf_104 wf_X5_43 (by decide) (by first | assumption | decide) rfl rfl ?_
  rw [e8]
  refine J_callSNr (n := 110) wS_X6_farOf (c_farOf d (by omega) (by omega) ⟨rfl, rfl⟩) dX5_stepOf_107 wn_X5_71 wT_X6_farOf rfl rfl (Nat.le_of_ble_eq_true rfl) rfl ?_
  refine J_icmp_ge (tgt := 117) (n := 113) dX5_stepOf_110 (by decide) rfl (fun c_110 => ?_) (fun c_110 => ?_)
  · refine J_iload_n (i := 2) (n := 118) dX5_stepOf_117 rfl rfl rfl ?_
    refine J_iret dX5_stepOf_118 rfl (kN_i _) ?_
    rw [nI_k0 (by omega)] at e_33_0
    rw [nI_k1 (by omega)] at e_33_1
    rw [nI_k2 (by omega)] at e_33_2
    rw [nI_leI (by omega) (by omega)] at c_110
    unfold pw_step at hq
    rw [if_neg e_33_0, if_neg e_33_1, if_neg e_33_2] at hq
    first | (rw [if_neg (by omega)] at hq; exact hq) | (rw [if_pos (by omega)] at hq; exact hq)
  · refine J_iload_n (i := 3) (n := 114) dX5_stepOf_113 rfl rfl rfl ?_
    refine J_goto (tgt := 118) dX5_stepOf_114 (by decide) ?_
    refine J_iret dX5_stepOf_118 rfl (kN_i _) ?_
    rw [nI_k0 (by omega)] at e_33_0
    rw [nI_k1 (by omega)] at e_33_1
    rw [nI_k2 (by omega)] at e_33_2
    rw [nI_leI (by omega) (by omega)] at c_110
    unfold pw_step at hq
    rw [if_neg e_33_0, if_neg e_33_1, if_neg e_33_2] at hq
    first | (rw [if_neg (by omega)] at hq; exact hq) | (rw [if_pos (by omega)] at hq; exact hq)

set_option maxHeartbeats 4000000 in
set_option maxRecDepth 100000 in
theorem c_W_passDayOfGlove {G : gx_G} {σ : gs_S} {Q : Option Value → gx_Hp → Prop} {p : pw} {w : gs_Ob} (d : Nat) {i j : Nat} (hi : i < gs_cnt 5) (hw : wR w p) (hO : pOk p) (hj : j < p.2.2 6) (hq : ∀ w1, wR w1 (pw_glove p j) → Q none (hp G (gs_set σ 5 i w1))) : gx_K G yX5_passDayOfGlove mX5_passDayOfGlove (d + 3) 0 0 [.ref (gs_a G 5 i 0), .int (nI j)] (hp G (gs_set σ 5 i w)) Q := by
  have h4 : p.2.2 6 ≤ 4 := hO.2.2.2.2.1
  obtain ⟨hk3, ha11, hw20⟩ := hO.2.1 j hj
  have hm11 : p.2.2 8 ≤ 11 := hO.2.2.2.2.2.2.1
  obtain ⟨e1, e2, e3⟩ := hw.2.1 j hj
  have e8 := hw.2.2.2.2 8 (by decide) (by decide)
  have hw0 : wR (gs_set σ 5 i w 5 i) p := by rw [gs_same]; exact hw
  have hs11 := pw_step_le p j
  have hn9 : p.2.2 9 ≤ 9999 := hO.2.2.2.2.2.2.2
  refine gx_K.of' (lv := [(0, _), (1, _)]) (by decide) rfl (by decide) (Nat.le_of_ble_eq_true rfl) rfl ?_
  refine J_aload_n (i := 0) (n := 1) dX5_passDayOfGlove_0 rfl rfl rfl ?_
  refine J_iload_n (i := 1) (n := 2) dX5_passDayOfGlove_1 rfl rfl rfl ?_
  refine J_callVr (n := 5) wS_X5_isPaired (c_W_isPaired (d + 2) hi hw0 (by omega) ⟨rfl, rfl⟩) dX5_passDayOfGlove_2 wm_X5_58 ⟨wM_X5_isPaired, wV_X5_isPaired⟩ rfl (T_recv (by decide) (by first | assumption | decide)) rfl rfl (Nat.le_of_ble_eq_true rfl) rfl ?_
  refine J_if_eq (tgt := 38) (n := 8) dX5_passDayOfGlove_5 (by decide) rfl (fun c_5 => ?_) (fun c_5 => ?_)
  · refine J_aload_n (i := 0) (n := 39) dX5_passDayOfGlove_38 rfl rfl rfl ?_
    refine J_iload_n (i := 1) (n := 40) dX5_passDayOfGlove_39 rfl rfl rfl ?_
    refine J_callVr (n := 43) wS_X5_isCold (c_W_isCold (d + 1) hi hw0 hO hj ⟨rfl, rfl⟩) dX5_passDayOfGlove_40 wm_X5_62 ⟨wM_X5_isCold, wV_X5_isCold⟩ rfl (T_recv (by decide) (by first | assumption | decide)) rfl rfl (Nat.le_of_ble_eq_true rfl) rfl ?_
    refine J_if_eq (tgt := 47) (n := 46) dX5_passDayOfGlove_43 (by decide) rfl (fun c_43 => ?_) (fun c_43 => ?_)
    · refine J_aload_n (i := 0) (n := 48) dX5_passDayOfGlove_47 rfl rfl rfl ?_
      refine T_get (k := 2) (n := 51) wk_X5 dX5_passDayOfGlove_48 wf_X5_18 (by decide) (by first | assumption | decide) rfl rfl ?_
      refine J_iload_n (i := 1) (n := 52) dX5_passDayOfGlove_51 rfl rfl rfl ?_
      refine J_aload_n (i := 0) (n := 53) dX5_passDayOfGlove_52 rfl rfl rfl ?_
      refine J_iload_n (i := 1) (n := 54) dX5_passDayOfGlove_53 rfl rfl rfl ?_
      refine J_callVr (n := 57) wS_X5_stepOf (c_W_stepOf d hi hw0 hO hj ⟨rfl, rfl⟩) dX5_passDayOfGlove_54 wm_X5_87 ⟨wM_X5_stepOf, wV_X5_stepOf⟩ rfl (T_recv (by decide) (by first | assumption | decide)) rfl rfl (Nat.le_of_ble_eq_true rfl) rfl ?_
      refine T_iast (c := 5) (k := 2) (N := 4) (n := 58) dX5_passDayOfGlove_57 (by decide) (by first | assumption | decide) (fun _ => rfl) (vp_in_nI (by omega) (by decide)) rfl ?_
      rw [nI_clamp (by omega)]
      have hw1 := hw.row 2 j (pw_step p j)
      generalize gs_w w 2 (upd (w.1 2) j (nI (pw_step p j))) = w1 at hw1 ⊢
      have a1 : w1.1 2 j = nI (pw_step p j) := by simpa [pw_a] using (hw1.2.1 j hj).2.1
      have m1 : w1.2.1 8 = nI (p.2.2 8) := hw1.2.2.2.2 8 (by decide) (by decide)
      have b1 : w1.2.1 5 = nI (pw_bits p.2.1) := hw1.2.2.2.1
      have n1 : w1.2.1 9 = nI (p.2.2 9) := hw1.2.2.2.2 9 (by decide) (by decide)
      have f1 : w1.1 0 (pw_step p j) = nI (p.1 0 (pw_step p j)) := hw1.1 _ (by omega)
      have f9 := hO.1 (pw_step p j) (by omega)
      refine J_aload_n (i := 0) (n := 59) dX5_passDayOfGlove_58 rfl rfl rfl ?_
      refine T_get (k := 2) (n := 62) wk_X5 dX5_passDayOfGlove_59 wf_X5_18 (by decide) (by first | assumption | decide) rfl rfl ?_
      refine J_iload_n (i := 1) (n := 63) dX5_passDayOfGlove_62 rfl rfl rfl ?_
      refine T_iald (c := 5) (k := 2) (N := 4) (n := 64) dX5_passDayOfGlove_63 (by decide) (by first | assumption | decide) rfl (vp_in_nI (by omega) (by decide)) rfl ?_
      rw [nI_clamp (by omega), a1]
      refine J_aload_n (i := 0) (n := 65) dX5_passDayOfGlove_64 rfl rfl rfl ?_
      refine T_get (k := 8) (n := 68) wk_X5 dX5_passDayOfGlove_65 wf_X5_43 (by decide) (by first | assumption | decide) rfl rfl ?_
      rw [m1]
      refine J_icmp_ne (tgt := 84) (n := 71) dX5_passDayOfGlove_68 (by decide) rfl (fun c_68 => ?_) (fun c_68 => ?_)
      · refine J_aload_n (i := 0) (n := 85) dX5_passDayOfGlove_84 rfl rfl rfl ?_
        refine J_aload_n (i := 0) (n := 86) dX5_passDayOfGlove_85 rfl rfl rfl ?_
        refine T_get (k := 9) (n := 89) wk_X5 dX5_passDayOfGlove_86 wf_X5_46 (by decide) (by first | assumption | decide) rfl rfl ?_
        refine J_aload_n (i := 0) (n := 90) dX5_passDayOfGlove_89 rfl rfl rfl ?_
        refine T_get (k := 0) (n := 93) wk_X5 dX5_passDayOfGlove_90 wf_X5_9 (by decide) (by first | assumption | decide) rfl rfl ?_
        refine J_aload_n (i := 0) (n := 94) dX5_passDayOfGlove_93 rfl rfl rfl ?_
        refine T_get (k := 2) (n := 97) wk_X5 dX5_passDayOfGlove_94 wf_X5_18 (by decide) (by first | assumption | decide) rfl rfl ?_
        refine J_iload_n (i := 1) (n := 98) dX5_passDayOfGlove_97 rfl rfl rfl ?_
        refine T_iald (c := 5) (k := 2) (N := 4) (n := 99) dX5_passDayOfGlove_98 (by decide) (by first | assumption | decide) rfl (vp_in_nI (by omega) (by decide)) rfl ?_
        rw [nI_clamp (by omega), a1]
        refine T_iald (c := 5) (k := 0) (N := 12) (n := 100) dX5_passDayOfGlove_99 (by decide) (by first | assumption | decide) rfl (vp_in_nI (by omega : pw_step p j < 12) (by decide)) rfl ?_
        rw [nI_clamp (by omega), f1, n1]
        refine J_iadd (n := 101) dX5_passDayOfGlove_100 rfl ?_
        refine J_sipush (n := 104) dX5_passDayOfGlove_101 kS_9999 rfl ?_
        refine J_mmin (n := 107) dX5_passDayOfGlove_104 wm_X5_82 ⟨wT_J9_min_7cf53, wI_J9, wC_J9_min_7cf53⟩ (Nat.le_of_ble_eq_true rfl) rfl ?_
        rw [nm_all hn9 f9]
        refine T_putI (k := 9) (n := 110) wk_X5 dX5_passDayOfGlove_107 wf_X5_46 (by decide) (by first | assumption | decide) (kN_i _) rfl (Nat.le_of_ble_eq_true rfl) rfl rfl ?_
        have hw2 := hw1.fld 9 (min (p.2.2 9 + p.1 0 (pw_step p j)) 9999) (by decide)
        generalize gs_f w1 9 (nI (min (p.2.2 9 + p.1 0 (pw_step p j)) 9999)) = w2 at hw2 ⊢
        have a3 : w2.1 3 j = nI (p.1 3 j) := (hw2.2.1 j hj).2.2
        obtain ⟨c_5, hnc⟩ := pc_f c_5 c_43
        refine J_aload_n (i := 0) (n := 111) dX5_passDayOfGlove_110 rfl rfl rfl ?_
        refine T_get (k := 3) (n := 114) wk_X5 dX5_passDayOfGlove_111 wf_X5_21 (by decide) (by first | assumption | decide) rfl rfl ?_
        refine J_iload_n (i := 1) (n := 115) dX5_passDayOfGlove_114 rfl rfl rfl ?_
        refine J_dup2 (n := 116) dX5_passDayOfGlove_115 rfl rfl rfl ?_
        refine T_iald (c := 5) (k := 3) (N := 4) (n := 117) dX5_passDayOfGlove_116 (by decide) (by first | assumption | decide) rfl (vp_in_nI (by omega) (by decide)) rfl ?_
        rw [nI_clamp (by omega), a3]
        refine J_iconst (n := 118) dX5_passDayOfGlove_117 kI_1 rfl ?_
        refine J_isub (n := 119) dX5_passDayOfGlove_118 rfl ?_
        rw [pk_sub (by omega)]
        refine T_iast (c := 5) (k := 3) (N := 4) (n := 120) dX5_passDayOfGlove_119 (by decide) (by first | assumption | decide) (fun _ => rfl) (vp_in_nI (by omega) (by decide)) rfl ?_
        refine J_vret dX5_passDayOfGlove_120 rfl ?_
        rw [nI_clamp (by omega)]
        refine hq _ ?_
        unfold pw_glove
        rw [nI_eq (by omega) (by omega)] at c_68
        rw [c_5, if_neg (by decide), if_neg hnc, if_neg c_68]
        exact hw2.row 3 j _
      · refine J_aload_n (i := 0) (n := 72) dX5_passDayOfGlove_71 rfl rfl rfl ?_
        refine J_dup (n := 73) dX5_passDayOfGlove_72 rfl rfl ?_
        refine T_get (k := 5) (n := 76) wk_X5 dX5_passDayOfGlove_73 wf_X5_33 (by decide) (by first | assumption | decide) rfl rfl ?_
        refine J_iconst (n := 77) dX5_passDayOfGlove_76 kI_1 rfl ?_
        refine J_iload_n (i := 1) (n := 78) dX5_passDayOfGlove_77 rfl rfl rfl ?_
        refine J_ishl (n := 79) dX5_passDayOfGlove_78 rfl ?_
        refine J_ior (n := 80) dX5_passDayOfGlove_79 rfl ?_
        rw [b1, bs_set _ (by omega)]
        refine T_putI (k := 5) (n := 83) wk_X5 dX5_passDayOfGlove_80 wf_X5_33 (by decide) (by first | assumption | decide) (kN_i _) rfl (Nat.le_of_ble_eq_true rfl) rfl rfl ?_
        refine J_vret dX5_passDayOfGlove_83 rfl ?_
        refine hq _ ?_
        obtain ⟨c_5, hnc⟩ := pc_f c_5 c_43
        unfold pw_glove
        rw [nI_eq (by omega) (by omega)] at c_68
        rw [c_5, if_neg (by decide), if_neg hnc, if_pos (by first | exact c_68 | exact Classical.byContradiction c_68)]
        exact hw1.pair _
    · refine J_vret dX5_passDayOfGlove_46 rfl ?_
      refine hq _ ?_
      unfold pw_glove
      rw [(pc_t c_5 c_43).1, if_neg (by decide), if_pos (pc_t c_5 c_43).2]
      exact hw
  · refine J_aload_n (i := 0) (n := 9) dX5_passDayOfGlove_8 rfl rfl rfl ?_
    refine T_get (k := 2) (n := 12) wk_X5 dX5_passDayOfGlove_9 wf_X5_18 (by decide) (by first | assumption | decide) rfl rfl ?_
    refine J_iload_n (i := 1) (n := 13) dX5_passDayOfGlove_12 rfl rfl rfl ?_
    refine J_aload_n (i := 0) (n := 14) dX5_passDayOfGlove_13 rfl rfl rfl ?_
    refine T_get (k := 8) (n := 17) wk_X5 dX5_passDayOfGlove_14 wf_X5_43 (by decide) (by first | assumption | decide) rfl rfl ?_
    rw [e8]
    refine T_iast (c := 5) (k := 2) (N := 4) (n := 18) dX5_passDayOfGlove_17 (by decide) (by first | assumption | decide) (fun _ => rfl) (vp_in_nI (by omega) (by decide)) rfl ?_
    rw [nI_clamp (by omega)]
    have hw1 := hw.row 2 j (p.2.2 8)
    generalize gs_w w 2 (upd (w.1 2) j (nI (p.2.2 8))) = w1 at hw1 ⊢
    have a3 : w1.1 3 j = nI (p.1 3 j) := (hw1.2.1 j hj).2.2
    refine J_aload_n (i := 0) (n := 19) dX5_passDayOfGlove_18 rfl rfl rfl ?_
    refine T_get (k := 3) (n := 22) wk_X5 dX5_passDayOfGlove_19 wf_X5_21 (by decide) (by first | assumption | decide) rfl rfl ?_
    refine J_iload_n (i := 1) (n := 23) dX5_passDayOfGlove_22 rfl rfl rfl ?_
    refine J_aload_n (i := 0) (n := 24) dX5_passDayOfGlove_23 rfl rfl rfl ?_
    refine T_get (k := 3) (n := 27) wk_X5 dX5_passDayOfGlove_24 wf_X5_21 (by decide) (by first | assumption | decide) rfl rfl ?_
    refine J_iload_n (i := 1) (n := 28) dX5_passDayOfGlove_27 rfl rfl rfl ?_
    refine T_iald (c := 5) (k := 3) (N := 4) (n := 29) dX5_passDayOfGlove_28 (by decide) (by first | assumption | decide) rfl (vp_in_nI (by omega) (by decide)) rfl ?_
    rw [nI_clamp (by omega), a3]
    refine J_iconst (n := 30) dX5_passDayOfGlove_29 kI_1 rfl ?_
    refine J_iadd (n := 31) dX5_passDayOfGlove_30 rfl ?_
    refine J_bipush (n := 33) dX5_passDayOfGlove_31 kB_20 rfl ?_
    refine J_mmin (n := 36) dX5_passDayOfGlove_33 wm_X5_82 ⟨wT_J9_min_7cf53, wI_J9, wC_J9_min_7cf53⟩ (Nat.le_of_ble_eq_true rfl) rfl ?_
    rw [wm_all _ (by omega)]
    refine T_iast (c := 5) (k := 3) (N := 4) (n := 37) dX5_passDayOfGlove_36 (by decide) (by first | assumption | decide) (fun _ => rfl) (vp_in_nI (by omega) (by decide)) rfl ?_
    refine J_vret dX5_passDayOfGlove_37 rfl ?_
    rw [nI_clamp (by omega)]
    refine hq _ ?_
    unfold pw_glove
    rw [if_pos (pc_p c_5)]
    exact hw1.row 3 j _

