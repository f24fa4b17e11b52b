theorem nb_0 (b : Bool) : nI b.toNat = 0 ↔ b = false := by cases b <;> decide +kernel
theorem bits_ext {f g : Nat → Bool} (h : ∀ q, q < 4 → f q = g q) : pw_bits f = pw_bits g := by
  unfold pw_bits
  rw [h 0 (by decide), h 1 (by decide), h 2 (by decide), h 3 (by decide)]
theorem bl_0 (F : Nat → Bool) : nI 0 = nI (pw_bits (fun q => decide (q < 0) && F q)) := by simp [pw_bits]
theorem bl_t {F : Nat → Bool} {g : Nat} (hg : g < 4) (h : F g = true) : nI (pw_bits (fun q => decide (q < g) && F q)) ||| (nI 1 <<< (nI g &&& 31)) = nI (pw_bits (fun q => decide (q < g + 1) && F q)) := by
  rw [bs_set _ hg]
  refine congrArg nI (bits_ext fun q _ => ?_)
  by_cases e : q = g
  · subst e; simp [h]
  · simp only [e, if_false]
    congr 1
    exact decide_eq_decide.mpr (by omega)
theorem bl_f {F : Nat → Bool} {g : Nat} (h : F g = false) : nI (pw_bits (fun q => decide (q < g) && F q)) = nI (pw_bits (fun q => decide (q < g + 1) && F q)) := by
  refine congrArg nI (bits_ext fun q _ => ?_)
  by_cases e : q = g
  · subst e; simp [h]
  · congr 1
    exact decide_eq_decide.mpr (by omega)
def pw_cold (p : pw) (q : Nat) : Bool := decide (p.1 3 q = 0) && !p.2.1 q
theorem fr_all : ∀ a, a < 12 → ∀ b, b < 12 → (if nI 12 - (if 0 ≤ nI a - nI b then nI a - nI b else 0 - (nI a - nI b)) < (if 0 ≤ nI a - nI b then nI a - nI b else 0 - (nI a - nI b)) then nI 12 - (if 0 ≤ nI a - nI b then nI a - nI b else 0 - (nI a - nI b)) else (if 0 ≤ nI a - nI b then nI a - nI b else 0 - (nI a - nI b))) = nI (pw_far a b) := by decide +kernel
theorem far_lt : ∀ a, a < 12 → ∀ b, b < 12 → pw_far a b < 7 := by decide +kernel
theorem st_all : ∀ a, a < 12 → nI a + nI 1 - (nI a + nI 1) / nI 12 * nI 12 = nI ((a + 1) % 12) ∧ nI a + nI 12 - nI 1 - (nI a + nI 12 - nI 1) / nI 12 * nI 12 = nI ((a + 11) % 12) ∧ nI ((a + 1) % 12) + nI 1 - (nI ((a + 1) % 12) + nI 1) / nI 12 * nI 12 = nI ((a + 2) % 12) := by decide +kernel
theorem wm_all : ∀ a, a < 21 → (if nI 20 < nI a + nI 1 then nI 20 else nI a + nI 1) = nI (min (a + 1) 20) := by decide +kernel
theorem nm_all {a b : Nat} (ha : a ≤ 9999) (hb : b ≤ 9) : (if nI 9999 < nI a + nI b then nI 9999 else nI a + nI b) = nI (min (a + b) 9999) := by
  rw [nI_add]
  by_cases h : 9999 < a + b
  · rw [if_pos (nI_lt h (by omega)), Nat.min_eq_right (by omega)]
  · rw [if_neg (nI_nlt (by omega) (by omega)), Nat.min_eq_left (by omega)]
set_option maxHeartbeats 4000000 in
set_option maxRecDepth 100000 in
theorem c_farOf {G : gx_G} {h : gx_Hp} {Q : Option Value → gx_Hp → Prop} (d : Nat) {a b : Nat} (ha : a < 12) (hb : b < 12) (hq : Q (some (.int (nI (pw_far a b)))) h) : gx_K G yX6_farOf mX6_farOf (d + 1) 0 0 [.int (nI a), .int (nI b)] h Q := by
  refine gx_K.of' (lv := [(0, _), (1, _)]) (by decide) rfl (by decide) (Nat.le_of_ble_eq_true rfl) rfl ?_
  refine J_iload_n (i := 0) (n := 1) dX6_farOf_0 rfl rfl rfl ?_
  refine J_iload_n (i := 1) (n := 2) dX6_farOf_1 rfl rfl rfl ?_
  refine J_isub (n := 3) dX6_farOf_2 rfl ?_
  refine J_mabs (n := 6) dX6_farOf_3 wm_X6_267 ⟨wT_J9_abs_0f7a4, wI_J9, wC_J9_abs_0f7a4⟩ (by decide) rfl ?_
  refine J_istore_n (i := 2) (n := 7) (lv' := [(0, _), (1, _), (2, _)]) dX6_farOf_6 rfl (by decide) rfl rfl ?_
  refine J_iload_n (i := 2) (n := 8) dX6_farOf_7 rfl rfl rfl ?_
  refine J_bipush (n := 10) dX6_farOf_8 kB_12 rfl ?_
  refine J_iload_n (i := 2) (n := 11) dX6_farOf_10 rfl rfl rfl ?_
  refine J_isub (n := 12) dX6_farOf_11 rfl ?_
  refine J_mmin (n := 15) dX6_farOf_12 wm_X6_272 ⟨wT_J9_min_7cf53, wI_J9, wC_J9_min_7cf53⟩ (by decide) rfl ?_
  refine J_iret dX6_farOf_15 rfl (kN_i _) ?_
  rw [fr_all a ha b hb]
  exact hq

set_option maxHeartbeats 4000000 in
set_option maxRecDepth 100000 in
theorem c_W_isPaired {G : gx_G} {σ : gs_S} {Q : Option Value → gx_Hp → Prop} {p : pw} (d : Nat) {i j : Nat} (hi : i < gs_cnt 5) (hw : wR (σ 5 i) p) (hj : j < 4) (hq : Q (some (.int (nI (p.2.1 j).toNat))) (hp G σ)) : gx_K G yX5_isPaired mX5_isPaired d 0 0 [.ref (gs_a G 5 i 0), .int (nI j)] (hp G σ) Q := by
  have hb := bt_test p.2.1 hj
  refine gx_K.of' (lv := [(0, _), (1, _)]) (by decide) rfl (by decide) (Nat.le_of_ble_eq_true rfl) rfl ?_
  refine J_aload_n (i := 0) (n := 1) dX5_isPaired_0 rfl rfl rfl ?_
  refine T_getO (k := 5) (n := 4) wk_X5 dX5_isPaired_1 wf_X5_33 (by decide) (by first | assumption | decide) rfl rfl ?_
  refine J_iload_n (i := 1) (n := 5) dX5_isPaired_4 rfl rfl rfl ?_
  refine J_ishr (n := 6) dX5_isPaired_5 rfl ?_
  refine J_iconst (n := 7) dX5_isPaired_6 kI_1 rfl ?_
  refine J_iand (n := 8) dX5_isPaired_7 rfl ?_
  refine J_iconst (n := 9) dX5_isPaired_8 kI_1 rfl ?_
  refine J_icmp_ne (tgt := 16) (n := 12) dX5_isPaired_9 (by decide) rfl (fun c_9 => ?_) (fun c_9 => ?_)
  · refine J_iconst (n := 17) dX5_isPaired_16 kI_0 rfl ?_
    refine J_iret dX5_isPaired_17 rfl (by first | exact kN_0 | exact kN_1) ?_
    rw [hw.2.2.2.1, hb] at c_9
    cases e : p.2.1 j with
    | true => first | exact absurd e c_9 | (rw [e] at hq; exact hq)
    | false => first | (rw [e] at hq; exact hq) | (rw [e] at c_9; exact absurd c_9 (by decide)) | (rw [e] at c_9; exact absurd (by decide) c_9)
  · refine J_iconst (n := 13) dX5_isPaired_12 kI_1 rfl ?_
    refine J_goto (tgt := 17) dX5_isPaired_13 (by decide) ?_
    refine J_iret dX5_isPaired_17 rfl (by first | exact kN_0 | exact kN_1) ?_
    rw [hw.2.2.2.1, hb] at c_9
    cases e : p.2.1 j with
    | true => first | exact absurd e c_9 | (rw [e] at hq; exact hq)
    | false => first | (rw [e] at hq; exact hq) | (rw [e] at c_9; exact absurd c_9 (by decide)) | (rw [e] at c_9; exact absurd (by decide) c_9)

set_option maxHeartbeats 4000000 in
set_option maxRecDepth 100000 in
theorem c_W_isCold {G : gx_G} {σ : gs_S} {Q : Option Value → gx_Hp → Prop} {p : pw} (d : Nat) {i j : Nat} (hi : i < gs_cnt 5) (hw : wR (σ 5 i) p) (hO : pOk p) (hj : j < p.2.2 6) (hq : Q (some (.int (nI (pw_cold p j).toNat))) (hp G σ)) : gx_K G yX5_isCold mX5_isCold (d + 1) 0 0 [.ref (gs_a G 5 i 0), .int (nI j)] (hp G σ) Q := by
  have h4 : p.2.2 6 ≤ 4 := hO.2.2.2.2.1
  have hwm := hO.2.1 j hj
  have e3 := (hw.2.1 j hj).2.2
  unfold pw_cold at hq
  refine gx_K.of' (lv := [(0, _), (1, _)]) (by decide) rfl (by decide) (Nat.le_of_ble_eq_true rfl) rfl ?_
  refine J_aload_n (i := 0) (n := 1) dX5_isCold_0 rfl rfl rfl ?_
  refine T_getO (k := 3) (n := 4) wk_X5 dX5_isCold_1 wf_X5_21 (by decide) (by first | assumption | decide) rfl rfl ?_
  refine J_iload_n (i := 1) (n := 5) dX5_isCold_4 rfl rfl rfl ?_
  refine T_ialdO (c := 5) (k := 3) (N := 4) (n := 6) dX5_isCold_5 (by decide) (by first | assumption | decide) rfl (vp_in_nI (by omega) (by decide)) rfl ?_
  rw [nI_clamp (by omega), e3]
  refine J_if_ne (tgt := 21) (n := 9) dX5_isCold_6 (by decide) rfl (fun c_6 => ?_) (fun c_6 => ?_)
  · refine J_iconst (n := 22) dX5_isCold_21 kI_0 rfl ?_
    refine J_iret dX5_isCold_22 rfl (by first | exact kN_0 | exact kN_1) ?_
    first
    | (have e0 : p.1 3 j = 0 := by
         rcases Nat.eq_zero_or_pos (p.1 3 j) with q | q
         · exact q
         · exact absurd c_6 (nI_ne0 q (by omega))
       rw [e0] at hq
       rw [nb_0] at c_14
       cases e : p.2.1 j with
       | true => first | (rw [e] at hq; exact hq) | exact absurd (c_14.symm.trans e) (by decide)
       | false => first | (rw [e] at hq; exact hq) | exact absurd e c_14)
    | (have e0 : ¬ p.1 3 j = 0 := fun q => c_6 (by rw [q]; exact nI_0)
       rw [decide_eq_false e0] at hq
       exact hq)
  · refine J_aload_n (i := 0) (n := 10) dX5_isCold_9 rfl rfl rfl ?_
    refine J_iload_n (i := 1) (n := 11) dX5_isCold_10 rfl rfl rfl ?_
    refine J_callVr (n := 14) wS_X5_isPaired (c_W_isPaired d hi hw (by omega : j < 4) ⟨rfl, rfl⟩) dX5_isCold_11 wm_X5_58 ⟨wM_X5_isPaired, wV_X5_isPaired⟩ rfl (T_recv (by decide) (by first | assumption | decide)) rfl rfl (by decide) rfl ?_
    refine J_if_ne (tgt := 21) (n := 17) dX5_isCold_14 (by decide) rfl (fun c_14 => ?_) (fun c_14 => ?_)
    · refine J_iconst (n := 22) dX5_isCold_21 kI_0 rfl ?_
      refine J_iret dX5_isCold_22 rfl (by first | exact kN_0 | exact kN_1) ?_
      first
      | (have e0 : p.1 3 j = 0 := by
           rcases Nat.eq_zero_or_pos (p.1 3 j) with q | q
           · exact q
           · exact absurd c_6 (nI_ne0 q (by omega))
         rw [e0] at hq
         rw [nb_0] at c_14
         cases e : p.2.1 j with
         | true => first | (rw [e] at hq; exact hq) | exact absurd (c_14.symm.trans e) (by decide)
         | false => first | (rw [e] at hq; exact hq) | exact absurd e c_14)
      | (have e0 : ¬ p.1 3 j = 0 := fun q => c_6 (by rw [q]; exact nI_0)
         rw [decide_eq_false e0] at hq
         exact hq)
    · refine J_iconst (n := 18) dX5_isCold_17 kI_1 rfl ?_
      refine J_goto (tgt := 22) dX5_isCold_18 (by decide) ?_
      refine J_iret dX5_isCold_22 rfl (by first | exact kN_0 | exact kN_1) ?_
      first
      | (have e0 : p.1 3 j = 0 := by
           rcases Nat.eq_zero_or_pos (p.1 3 j) with q | q
           · exact q
           · exact absurd c_6 (nI_ne0 q (by omega))
         rw [e0] at hq
         rw [nb_0] at c_14
         cases e : p.2.1 j with
         | true => first | (rw [e] at hq; exact hq) | exact absurd (c_14.symm.trans e) (by decide)
         | false => first | (rw [e] at hq; exact hq) | exact absurd e c_14)
      | (have e0 : ¬ p.1 3 j = 0 := fun q => c_6 (by rw [q]; exact nI_0)
         rw [decide_eq_false e0] at hq
         exact hq)

