theorem wR.calls {w : gs_Ob} {p : pw} (h : wR w p) (n : Nat) (hn : ∀ j, p.2.2 7 ≤ j → j < n → w.1 4 j = nI (p.1 4 j)) : wR (gs_f w 7 (nI n)) (pw_f p 7 n) := by
  obtain ⟨h1, h2, h3, h4, h5⟩ := h
  have e6 : (pw_f p 7 n).2.2 6 = p.2.2 6 := by simp [pw_f]
  have e7 : (pw_f p 7 n).2.2 7 = n := by simp [pw_f]
  refine ⟨h1, fun j hj => h2 j (by rw [← e6]; exact hj), fun j hj => ?_, ?_, fun m hm hm2 => ?_⟩
  · rw [e7] at hj
    rcases Nat.lt_or_ge j (p.2.2 7) with q | q
    · exact h3 j q
    · exact hn j q hj
  · show upd w.2.1 7 (nI n) 5 = _
    rw [pk_un (by omega)]; exact h4
  · show upd w.2.1 7 (nI n) m = nI (if m = 7 then n else p.2.2 m)
    by_cases e : m = 7
    · subst e; rw [pk_us, if_pos rfl]
    · rw [pk_un e, if_neg e]; exact h5 m hm hm2
theorem wR_copy {v w : gs_Ob} {p : pw} (hv : wR v p) (hO : pOk p) (h0 : ∀ q, q < 12 → w.1 0 q = v.1 0 q) (h1 : ∀ q, q < 4 → w.1 1 q = v.1 1 q) (h2 : ∀ q, q < 4 → w.1 2 q = v.1 2 q) (h3 : ∀ q, q < 4 → w.1 3 q = v.1 3 q) (h4 : ∀ q, q < 6 → w.1 4 q = v.1 4 q) (hf : ∀ k, 5 ≤ k → k ≤ 10 → w.2.1 k = v.2.1 k) : wR w p := by
  have g4 : p.2.2 6 ≤ 4 := hO.2.2.2.2.1
  have g6 : p.2.2 7 ≤ 6 := hO.2.2.2.2.2.1
  obtain ⟨a1, a2, a3, a4, a5⟩ := hv
  exact ⟨fun j hj => (h0 j hj).trans (a1 j hj), fun j hj => ⟨(h1 j (by omega)).trans (a2 j hj).1, (h2 j (by omega)).trans (a2 j hj).2.1, (h3 j (by omega)).trans (a2 j hj).2.2⟩, fun j hj => (h4 j (by omega)).trans (a3 j hj), (hf 5 (by decide) (by decide)).trans a4, fun k hk hk2 => (hf k (by omega) hk2).trans (a5 k hk hk2)⟩
def pw_mv (p : pw) (e g : Nat) : pw := (fun k j => if k = 2 ∧ j < g ∧ p.2.1 j = true then e else p.1 k j, p.2.1, fun k => if k = 8 then e else p.2.2 k)
theorem pw_mv_0 (p : pw) (e : Nat) : pw_mv p e 0 = pw_f p 8 e := by
  unfold pw_mv pw_f
  simp
theorem pw_mv_t {p : pw} {e g : Nat} (h : p.2.1 g = true) : pw_a (pw_mv p e g) 2 g e = pw_mv p e (g + 1) := by
  refine Prod.ext (funext fun k => funext fun j => ?_) rfl
  show (if k = 2 ∧ j = g then e else if k = 2 ∧ j < g ∧ p.2.1 j = true then e else p.1 k j) = if k = 2 ∧ j < g + 1 ∧ p.2.1 j = true then e else p.1 k j
  by_cases ek : k = 2
  · by_cases ej : j = g
    · subst ej; simp [ek, h]
    · have : (j < g + 1) = (j < g) := propext (by omega)
      simp [ek, ej, this]
  · simp [ek]
theorem pw_mv_n {p : pw} {e g : Nat} (h : p.2.1 g = false) : pw_mv p e g = pw_mv p e (g + 1) := by
  refine Prod.ext (funext fun k => funext fun j => ?_) rfl
  show (if k = 2 ∧ j < g ∧ p.2.1 j = true then e else p.1 k j) = if k = 2 ∧ j < g + 1 ∧ p.2.1 j = true then e else p.1 k j
  by_cases ej : j = g
  · subst ej; simp [h]
  · have : (j < g + 1) = (j < g) := propext (by omega)
    simp only [this]
def pw_move (p : pw) (e : Nat) : pw := pw_mv p e (p.2.2 6)
def pw_sh (p : pw) (i m : Nat) : pw := (fun k j => if k = 4 ∧ i ≤ j ∧ j < m then p.1 4 (j + 1) else p.1 k j, p.2)
theorem pw_sh_0 (p : pw) (i : Nat) : pw_sh p i i = p := by
  refine Prod.ext (funext fun k => funext fun j => ?_) rfl
  exact if_neg (by omega)
theorem pw_sh_s {p : pw} {i m : Nat} (h : i ≤ m) : pw_a (pw_sh p i m) 4 m (p.1 4 (m + 1)) = pw_sh p i (m + 1) := by
  refine Prod.ext (funext fun k => funext fun j => ?_) rfl
  show (if k = 4 ∧ j = m then p.1 4 (m + 1) else if k = 4 ∧ i ≤ j ∧ j < m then p.1 4 (j + 1) else p.1 k j) = if k = 4 ∧ i ≤ j ∧ j < m + 1 then p.1 4 (j + 1) else p.1 k j
  by_cases ej : j = m
  · subst ej; simp [h]
  · have : (j < m + 1) = (j < m) := propext (by omega)
    simp [ej, this]
def pw_shun (p : pw) (i : Nat) : pw := pw_f (pw_sh p i (p.2.2 7 - 1)) 7 (p.2.2 7 - 1)
def pw_empty : pw := (fun _ _ => 0, fun _ => false, fun _ => 0)
set_option maxHeartbeats 4000000 in
set_option maxRecDepth 100000 in
theorem c_W_coldOnes {G : gx_G} {σ : gs_S} {Q : Option Value → gx_Hp → Prop} {p : pw} (d : Nat) {i : Nat} (hi : i < gs_cnt 5) (hw : wR (σ 5 i) p) (hO : pOk p) (hq : Q (some (.int (nI (pw_bits (fun q => decide (q < p.2.2 6) && pw_cold p q))))) (hp G σ)) : gx_K G yX5_coldOnes mX5_coldOnes (d + 2) 0 0 [.ref (gs_a G 5 i 0)] (hp G σ) Q := by
  have h4 : p.2.2 6 ≤ 4 := hO.2.2.2.2.1
  have e6 := hw.2.2.2.2 6 (by decide) (by decide)
  have loop : ∀ n g, p.2.2 6 - g < n → g ≤ p.2.2 6 → gx_J G mX5_coldOnes (d + 2) 0 0 Q 4 [(0, .ref (gs_a G 5 i 0)), (1, .int (nI (pw_bits (fun q => decide (q < g) && (pw_cold p) q)))), (2, .int (nI g))] [] (hp G σ) := by
    intro n
    induction n with
    | zero => intros; exact absurd (by assumption) (Nat.not_lt_zero _)
    | succ n ih =>
      intro g hn hg
      refine J_iload_n (i := 2) (n := 5) dX5_coldOnes_4 rfl rfl rfl ?_
      refine J_aload_n (i := 0) (n := 6) dX5_coldOnes_5 rfl rfl rfl ?_
      refine T_getO (k := 6) (n := 9) wk_X5 dX5_coldOnes_6 wf_X5_37 (by decide) (by first | assumption | decide) rfl rfl ?_
      rw [e6]
      refine J_icmp_ge (tgt := 32) (n := 12) dX5_coldOnes_9 (by decide) rfl (fun c_9 => ?_) (fun c_9 => ?_)
      · refine J_iload_n (i := 1) (n := 33) dX5_coldOnes_32 rfl rfl rfl ?_
        refine J_iret dX5_coldOnes_33 rfl (kN_i _) ?_
        rw [nI_leI (by omega) (by omega)] at c_9
        have eg : g = p.2.2 6 := by omega
        subst eg
        exact hq
      · rw [nI_leI (by omega) (by omega)] at c_9
        refine J_aload_n (i := 0) (n := 13) dX5_coldOnes_12 rfl rfl rfl ?_
        refine J_iload_n (i := 2) (n := 14) dX5_coldOnes_13 rfl rfl rfl ?_
        refine J_callVr (n := 17) wS_X5_isCold (c_W_isCold d hi hw hO (by omega) ⟨rfl, rfl⟩) dX5_coldOnes_14 wm_X5_62 ⟨wM_X5_isCold, wV_X5_isCold⟩ rfl (T_recv (by decide) (by first | assumption | decide)) rfl rfl (Nat.le_of_ble_eq_true rfl) rfl ?_
        refine J_if_eq (tgt := 26) (n := 20) dX5_coldOnes_17 (by decide) rfl (fun c_17 => ?_) (fun c_17 => ?_)
        · try (have hF : pw_cold p g = false := (nb_0 _).mp c_17)
          refine J_inc (i := 2) (n := 29) (lv' := [(0, _), (1, _), (2, _)]) dX5_coldOnes_26 rfl (by decide) rfl rfl ?_
          refine J_goto (tgt := 4) dX5_coldOnes_29 (by decide) ?_
          first | (rw [bl_f (F := (pw_cold p)) hF]; exact ih (g + 1) (by omega) (by omega)) | exact ih (g + 1) (by omega) (by omega)
        · have hF : pw_cold p g = true := by
            rw [nb_0] at c_17
            cases e : pw_cold p g with
            | true => rfl
            | false => exact absurd e c_17
          refine J_iload_n (i := 1) (n := 21) dX5_coldOnes_20 rfl rfl rfl ?_
          refine J_iconst (n := 22) dX5_coldOnes_21 kI_1 rfl ?_
          refine J_iload_n (i := 2) (n := 23) dX5_coldOnes_22 rfl rfl rfl ?_
          refine J_ishl (n := 24) dX5_coldOnes_23 rfl ?_
          refine J_ior (n := 25) dX5_coldOnes_24 rfl ?_
          rw [bl_t (F := (pw_cold p)) (by omega) hF]
          refine J_istore_n (i := 1) (n := 26) (lv' := [(0, _), (1, _), (2, _)]) dX5_coldOnes_25 rfl (by decide) rfl rfl ?_
          try (have hF : pw_cold p g = false := (nb_0 _).mp c_17)
          refine J_inc (i := 2) (n := 29) (lv' := [(0, _), (1, _), (2, _)]) dX5_coldOnes_26 rfl (by decide) rfl rfl ?_
          refine J_goto (tgt := 4) dX5_coldOnes_29 (by decide) ?_
          first | (rw [bl_f (F := (pw_cold p)) hF]; exact ih (g + 1) (by omega) (by omega)) | exact ih (g + 1) (by omega) (by omega)
  refine gx_K.of' (lv := [(0, _)]) (by decide) rfl (by decide) (Nat.le_of_ble_eq_true rfl) rfl ?_
  refine J_iconst (n := 1) dX5_coldOnes_0 kI_0 rfl ?_
  refine J_istore_n (i := 1) (n := 2) (lv' := [(0, _), (1, _)]) dX5_coldOnes_1 rfl (by decide) rfl rfl ?_
  refine J_iconst (n := 3) dX5_coldOnes_2 kI_0 rfl ?_
  refine J_istore_n (i := 2) (n := 4) (lv' := [(0, _), (1, _), (2, _)]) dX5_coldOnes_3 rfl (by decide) rfl rfl ?_
  have h0 := loop (p.2.2 6 + 1) 0 (by omega) (by omega)
  rw [← bl_0] at h0
  exact h0

set_option maxHeartbeats 4000000 in
set_option maxRecDepth 100000 in
theorem c_W_glovesAt {G : gx_G} {σ : gs_S} {Q : Option Value → gx_Hp → Prop} {p : pw} (d : Nat) {i e : Nat} (hi : i < gs_cnt 5) (hw : wR (σ 5 i) p) (hO : pOk p) (he : e ≤ 11) (hq : Q (some (.int (nI (pw_bits (fun q => decide (q < p.2.2 6) && (fun q => decide (p.1 2 q = e)) q))))) (hp G σ)) : gx_K G yX5_glovesAt mX5_glovesAt d 0 0 [.ref (gs_a G 5 i 0), .int (nI e)] (hp G σ) Q := by
  have h4 : p.2.2 6 ≤ 4 := hO.2.2.2.2.1
  have e6 := hw.2.2.2.2 6 (by decide) (by decide)
  have loop : ∀ n g, p.2.2 6 - g < n → g ≤ p.2.2 6 → gx_J G mX5_glovesAt d 0 0 Q 4 [(0, .ref (gs_a G 5 i 0)), (1, .int (nI e)), (2, .int (nI (pw_bits (fun q => decide (q < g) && (fun q => decide (p.1 2 q = e)) q)))), (3, .int (nI g))] [] (hp G σ) := by
    intro n
    induction n with
    | zero => intros; exact absurd (by assumption) (Nat.not_lt_zero _)
    | succ n ih =>
      intro g hn hg
      refine J_iload_n (i := 3) (n := 5) dX5_glovesAt_4 rfl rfl rfl ?_
      refine J_aload_n (i := 0) (n := 6) dX5_glovesAt_5 rfl rfl rfl ?_
      refine T_getO (k := 6) (n := 9) wk_X5 dX5_glovesAt_6 wf_X5_37 (by decide) (by first | assumption | decide) rfl rfl ?_
      rw [e6]
      refine J_icmp_ge (tgt := 34) (n := 12) dX5_glovesAt_9 (by decide) rfl (fun c_9 => ?_) (fun c_9 => ?_)
      · refine J_iload_n (i := 2) (n := 35) dX5_glovesAt_34 rfl rfl rfl ?_
        refine J_iret dX5_glovesAt_35 rfl (kN_i _) ?_
        rw [nI_leI (by omega) (by omega)] at c_9
        have eg : g = p.2.2 6 := by omega
        subst eg
        exact hq
      · rw [nI_leI (by omega) (by omega)] at c_9
        have hgl : g < p.2.2 6 := by omega
        have e2 := (hw.2.1 g hgl).2.1
        have a11 := (hO.2.1 g hgl).2.1
        refine J_aload_n (i := 0) (n := 13) dX5_glovesAt_12 rfl rfl rfl ?_
        refine T_getO (k := 2) (n := 16) wk_X5 dX5_glovesAt_13 wf_X5_18 (by decide) (by first | assumption | decide) rfl rfl ?_
        refine J_iload_n (i := 3) (n := 17) dX5_glovesAt_16 rfl rfl rfl ?_
        refine T_ialdO (c := 5) (k := 2) (N := 4) (n := 18) dX5_glovesAt_17 (by decide) (by first | assumption | decide) rfl (vp_in_nI (by omega) (by decide)) rfl ?_
        rw [nI_clamp (by omega), e2]
        refine J_iload_n (i := 1) (n := 19) dX5_glovesAt_18 rfl rfl rfl ?_
        refine J_icmp_ne (tgt := 28) (n := 22) dX5_glovesAt_19 (by decide) rfl (fun c_19 => ?_) (fun c_19 => ?_)
        · try (rw [nI_eq (by omega) (by omega)] at c_19; have hF : (fun q => decide (p.1 2 q = e)) g = false := decide_eq_false c_19)
          refine J_inc (i := 3) (n := 31) (lv' := [(0, _), (1, _), (2, _), (3, _)]) dX5_glovesAt_28 rfl (by decide) rfl rfl ?_
          refine J_goto (tgt := 4) dX5_glovesAt_31 (by decide) ?_
          first | (rw [bl_f (F := (fun q => decide (p.1 2 q = e))) hF]; exact ih (g + 1) (by omega) (by omega)) | exact ih (g + 1) (by omega) (by omega)
        · rw [nI_eq (by omega) (by omega)] at c_19
          have hF : (fun q => decide (p.1 2 q = e)) g = true := decide_eq_true (by first | exact c_19 | exact Classical.byContradiction c_19)
          refine J_iload_n (i := 2) (n := 23) dX5_glovesAt_22 rfl rfl rfl ?_
          refine J_iconst (n := 24) dX5_glovesAt_23 kI_1 rfl ?_
          refine J_iload_n (i := 3) (n := 25) dX5_glovesAt_24 rfl rfl rfl ?_
          refine J_ishl (n := 26) dX5_glovesAt_25 rfl ?_
          refine J_ior (n := 27) dX5_glovesAt_26 rfl ?_
          rw [bl_t (F := (fun q => decide (p.1 2 q = e))) (by omega) hF]
          refine J_istore_n (i := 2) (n := 28) (lv' := [(0, _), (1, _), (2, _), (3, _)]) dX5_glovesAt_27 rfl (by decide) rfl rfl ?_
          try (rw [nI_eq (by omega) (by omega)] at c_19; have hF : (fun q => decide (p.1 2 q = e)) g = false := decide_eq_false c_19)
          refine J_inc (i := 3) (n := 31) (lv' := [(0, _), (1, _), (2, _), (3, _)]) dX5_glovesAt_28 rfl (by decide) rfl rfl ?_
          refine J_goto (tgt := 4) dX5_glovesAt_31 (by decide) ?_
          first | (rw [bl_f (F := (fun q => decide (p.1 2 q = e))) hF]; exact ih (g + 1) (by omega) (by omega)) | exact ih (g + 1) (by omega) (by omega)
  refine gx_K.of' (lv := [(0, _), (1, _)]) (by decide) rfl (by decide) (Nat.le_of_ble_eq_true rfl) rfl ?_
  refine J_iconst (n := 1) dX5_glovesAt_0 kI_0 rfl ?_
  refine J_istore_n (i := 2) (n := 2) (lv' := [(0, _), (1, _), (2, _)]) dX5_glovesAt_1 rfl (by decide) rfl rfl ?_
  refine J_iconst (n := 3) dX5_glovesAt_2 kI_0 rfl ?_
  refine J_istore_n (i := 3) (n := 4) (lv' := [(0, _), (1, _), (2, _), (3, _)]) dX5_glovesAt_3 rfl (by decide) rfl rfl ?_
  have h0 := loop (p.2.2 6 + 1) 0 (by omega) (by omega)
  rw [← bl_0] at h0
  exact h0

set_option maxHeartbeats 4000000 in
set_option maxRecDepth 100000 in
theorem c_bitCount {G : gx_G} {h : gx_Hp} {Q : Option Value → gx_Hp → Prop} (d : Nat) (f : Nat → Bool) (hq : Q (some (.int (nI (pw_count f)))) h) : gx_K G yJ6_bitCount_0f7a4 mJ6_bitCount_0f7a4 d 0 0 [.int (nI (pw_bits f))] h Q := by
  refine gx_K.of' (lv := [(0, _)]) (by decide) rfl (by decide) (Nat.le_of_ble_eq_true rfl) rfl ?_
  refine J_iload_n (i := 0) (n := 1) dJ6_bitCount_0f7a4_0 rfl rfl rfl ?_
  refine J_iload_n (i := 0) (n := 2) dJ6_bitCount_0f7a4_1 rfl rfl rfl ?_
  refine J_iconst (n := 3) dJ6_bitCount_0f7a4_2 kI_1 rfl ?_
  refine J_iushr (n := 4) dJ6_bitCount_0f7a4_3 rfl ?_
  refine J_ldcw (n := 7) dJ6_bitCount_0f7a4_4 wd_J6_265 rfl ?_
  refine J_iand (n := 8) dJ6_bitCount_0f7a4_7 rfl ?_
  refine J_isub (n := 9) dJ6_bitCount_0f7a4_8 rfl ?_
  refine J_istore_n (i := 0) (n := 10) (lv' := [(0, _)]) dJ6_bitCount_0f7a4_9 rfl (by decide) rfl rfl ?_
  refine J_iload_n (i := 0) (n := 11) dJ6_bitCount_0f7a4_10 rfl rfl rfl ?_
  refine J_ldcw (n := 14) dJ6_bitCount_0f7a4_11 wd_J6_266 rfl ?_
  refine J_iand (n := 15) dJ6_bitCount_0f7a4_14 rfl ?_
  refine J_iload_n (i := 0) (n := 16) dJ6_bitCount_0f7a4_15 rfl rfl rfl ?_
  refine J_iconst (n := 17) dJ6_bitCount_0f7a4_16 kI_2 rfl ?_
  refine J_iushr (n := 18) dJ6_bitCount_0f7a4_17 rfl ?_
  refine J_ldcw (n := 21) dJ6_bitCount_0f7a4_18 wd_J6_266 rfl ?_
  refine J_iand (n := 22) dJ6_bitCount_0f7a4_21 rfl ?_
  refine J_iadd (n := 23) dJ6_bitCount_0f7a4_22 rfl ?_
  refine J_istore_n (i := 0) (n := 24) (lv' := [(0, _)]) dJ6_bitCount_0f7a4_23 rfl (by decide) rfl rfl ?_
  refine J_iload_n (i := 0) (n := 25) dJ6_bitCount_0f7a4_24 rfl rfl rfl ?_
  refine J_iload_n (i := 0) (n := 26) dJ6_bitCount_0f7a4_25 rfl rfl rfl ?_
  refine J_iconst (n := 27) dJ6_bitCount_0f7a4_26 kI_4 rfl ?_
  refine J_iushr (n := 28) dJ6_bitCount_0f7a4_27 rfl ?_
  refine J_iadd (n := 29) dJ6_bitCount_0f7a4_28 rfl ?_
  refine J_ldcw (n := 32) dJ6_bitCount_0f7a4_29 wd_J6_267 rfl ?_
  refine J_iand (n := 33) dJ6_bitCount_0f7a4_32 rfl ?_
  refine J_istore_n (i := 0) (n := 34) (lv' := [(0, _)]) dJ6_bitCount_0f7a4_33 rfl (by decide) rfl rfl ?_
  refine J_iload_n (i := 0) (n := 35) dJ6_bitCount_0f7a4_34 rfl rfl rfl ?_
  refine J_iload_n (i := 0) (n := 36) dJ6_bitCount_0f7a4_35 rfl rfl rfl ?_
  refine J_bipush (n := 38) dJ6_bitCount_0f7a4_36 kB_8 rfl ?_
  refine J_iushr (n := 39) dJ6_bitCount_0f7a4_38 rfl ?_
  refine J_iadd (n := 40) dJ6_bitCount_0f7a4_39 rfl ?_
  refine J_istore_n (i := 0) (n := 41) (lv' := [(0, _)]) dJ6_bitCount_0f7a4_40 rfl (by decide) rfl rfl ?_
  refine J_iload_n (i := 0) (n := 42) dJ6_bitCount_0f7a4_41 rfl rfl rfl ?_
  refine J_iload_n (i := 0) (n := 43) dJ6_bitCount_0f7a4_42 rfl rfl rfl ?_
  refine J_bipush (n := 45) dJ6_bitCount_0f7a4_43 kB_16 rfl ?_
  refine J_iushr (n := 46) dJ6_bitCount_0f7a4_45 rfl ?_
  refine J_iadd (n := 47) dJ6_bitCount_0f7a4_46 rfl ?_
  refine J_istore_n (i := 0) (n := 48) (lv' := [(0, _)]) dJ6_bitCount_0f7a4_47 rfl (by decide) rfl rfl ?_
  refine J_iload_n (i := 0) (n := 49) dJ6_bitCount_0f7a4_48 rfl rfl rfl ?_
  refine J_bipush (n := 51) dJ6_bitCount_0f7a4_49 kB_63 rfl ?_
  refine J_iand (n := 52) dJ6_bitCount_0f7a4_51 rfl ?_
  refine J_iret dJ6_bitCount_0f7a4_52 rfl (kN_i _) ?_
  refine Eq.mp (congrArg (fun z => Q (some (.int z)) h) ?_) hq
  unfold pw_bits pw_count
  generalize f 0 = b0
  generalize f 1 = b1
  generalize f 2 = b2
  generalize f 3 = b3
  revert b0 b1 b2 b3
  decide +kernel

set_option maxHeartbeats 4000000 in
set_option maxRecDepth 100000 in
theorem c_W_metCount {G : gx_G} {σ : gs_S} {Q : Option Value → gx_Hp → Prop} {p : pw} (d : Nat) {i : Nat} (hi : i < gs_cnt 5) (hw : wR (σ 5 i) p) (hq : Q (some (.int (nI (pw_count p.2.1)))) (hp G σ)) : gx_K G yX5_metCount mX5_metCount (d + 1) 0 0 [.ref (gs_a G 5 i 0)] (hp G σ) Q := by
  refine gx_K.of' (lv := [(0, _)]) (by decide) rfl (by decide) (Nat.le_of_ble_eq_true rfl) rfl ?_
  refine J_aload_n (i := 0) (n := 1) dX5_metCount_0 rfl rfl rfl ?_
  refine T_getO (k := 5) (n := 4) wk_X5 dX5_metCount_1 wf_X5_33 (by decide) (by first | assumption | decide) rfl rfl ?_
  rw [hw.2.2.2.1]
  refine J_callSr (n := 7) wS_J6_bitCount_0f7a4 (c_bitCount d p.2.1 ⟨rfl, rfl⟩) dX5_metCount_4 wm_X5_65 wT_J6_bitCount_0f7a4 rfl rfl (Nat.le_of_ble_eq_true rfl) rfl ?_
  refine J_iret dX5_metCount_7 rfl (kN_i _) ?_
  exact hq

set_option maxHeartbeats 4000000 in
set_option maxRecDepth 100000 in
theorem c_W_partOf {G : gx_G} {σ : gs_S} {Q : Option Value → gx_Hp → Prop} {p : pw} (d : Nat) {i j k : Nat} (hi : i < gs_cnt 5) (hw : wR (σ 5 i) p) (hO : pOk p) (hj : j < p.2.2 6) (hk : k ≤ 2) (hq : Q (some (.int (nI (p.1 (k + 1) j)))) (hp G σ)) : gx_K G yX5_partOf mX5_partOf d 0 0 [.ref (gs_a G 5 i 0), .int (nI j), .int (nI k)] (hp G σ) Q := by
  have h4 : p.2.2 6 ≤ 4 := hO.2.2.2.2.1
  obtain ⟨e1, e2, e3⟩ := hw.2.1 j hj
  refine gx_K.of' (lv := [(0, _), (1, _), (2, _)]) (by decide) rfl (by decide) (Nat.le_of_ble_eq_true rfl) rfl ?_
  refine J_iload_n (i := 2) (n := 1) dX5_partOf_0 rfl rfl rfl ?_
  by_cases e_1_0 : nI k = 0
  · rw [e_1_0]
    refine J_lookup (off := 27) (tgt := 28) dX5_partOf_1 (by decide) (by decide) (by decide) ?_
    refine J_aload_n (i := 0) (n := 29) dX5_partOf_28 rfl rfl rfl ?_
    refine T_getO (k := 1) (n := 32) wk_X5 dX5_partOf_29 wf_X5_15 (by decide) (by first | assumption | decide) rfl rfl ?_
    refine J_iload_n (i := 1) (n := 33) dX5_partOf_32 rfl rfl rfl ?_
    refine T_ialdO (c := 5) (k := 1) (N := 4) (n := 34) dX5_partOf_33 (by decide) (by first | assumption | decide) rfl (vp_in_nI (by omega) (by decide)) rfl ?_
    refine J_iret dX5_partOf_34 rfl (kN_i _) ?_
    rw [nI_clamp (by omega), e1]
    rw [nI_k0 (by omega)] at e_1_0
    subst e_1_0
    exact hq
  by_cases e_1_1 : nI k = 1
  · rw [e_1_1]
    refine J_lookup (off := 34) (tgt := 35) dX5_partOf_1 (by decide) (by decide) (by decide) ?_
    refine J_aload_n (i := 0) (n := 36) dX5_partOf_35 rfl rfl rfl ?_
    refine T_getO (k := 2) (n := 39) wk_X5 dX5_partOf_36 wf_X5_18 (by decide) (by first | assumption | decide) rfl rfl ?_
    refine J_iload_n (i := 1) (n := 40) dX5_partOf_39 rfl rfl rfl ?_
    refine T_ialdO (c := 5) (k := 2) (N := 4) (n := 41) dX5_partOf_40 (by decide) (by first | assumption | decide) rfl (vp_in_nI (by omega) (by decide)) rfl ?_
    refine J_iret dX5_partOf_41 rfl (kN_i _) ?_
    rw [nI_clamp (by omega), e2]
    rw [nI_k1 (by omega)] at e_1_1
    subst e_1_1
    exact hq
  refine J_lookup (off := 41) (tgt := 42) dX5_partOf_1 (by decide) (by refine (lv_osw e_1_0 rfl).trans ?_; refine (lv_osw e_1_1 rfl).trans ?_; rfl) (by decide) ?_
  refine J_aload_n (i := 0) (n := 43) dX5_partOf_42 rfl rfl rfl ?_
  refine T_getO (k := 3) (n := 46) wk_X5 dX5_partOf_43 wf_X5_21 (by decide) (by first | assumption | decide) rfl rfl ?_
  refine J_iload_n (i := 1) (n := 47) dX5_partOf_46 rfl rfl rfl ?_
  refine T_ialdO (c := 5) (k := 3) (N := 4) (n := 48) dX5_partOf_47 (by decide) (by first | assumption | decide) rfl (vp_in_nI (by omega) (by decide)) rfl ?_
  refine J_iret dX5_partOf_48 rfl (kN_i _) ?_
  rw [nI_clamp (by omega), e3]
  rw [nI_k0 (by omega)] at e_1_0
  rw [nI_k1 (by omega)] at e_1_1
  have ek : k = 2 := by omega
  subst ek
  exact hq

set_option maxHeartbeats 4000000 in
set_option maxRecDepth 100000 in
theorem c_W_putPart {G : gx_G} {σ : gs_S} {Q : Option Value → gx_Hp → Prop} {p : pw} {w : gs_Ob} (d : Nat) {i j k v : Nat} (hi : i < gs_cnt 5) (hw : wR w p) (hj : j < 4) (hk : k ≤ 2) (hq : ∀ w1, wR w1 (pw_a p (k + 1) j v) → Q none (hp G (gs_set σ 5 i w1))) : gx_K G yX5_putPart mX5_putPart d 0 0 [.ref (gs_a G 5 i 0), .int (nI j), .int (nI k), .int (nI v)] (hp G (gs_set σ 5 i w)) Q := by
  refine gx_K.of' (lv := [(0, _), (1, _), (2, _), (3, _)]) (by decide) rfl (by decide) (Nat.le_of_ble_eq_true rfl) rfl ?_
  refine J_iload_n (i := 2) (n := 1) dX5_putPart_0 rfl rfl rfl ?_
  by_cases e_1_0 : nI k = 0
  · rw [e_1_0]
    refine J_lookup (off := 27) (tgt := 28) dX5_putPart_1 (by decide) (by decide) (by decide) ?_
    refine J_aload_n (i := 0) (n := 29) dX5_putPart_28 rfl rfl rfl ?_
    refine T_get (k := 1) (n := 32) wk_X5 dX5_putPart_29 wf_X5_15 (by decide) (by first | assumption | decide) rfl rfl ?_
    refine J_iload_n (i := 1) (n := 33) dX5_putPart_32 rfl rfl rfl ?_
    refine J_iload_n (i := 3) (n := 34) dX5_putPart_33 rfl rfl rfl ?_
    refine T_iast (c := 5) (k := 1) (N := 4) (n := 35) dX5_putPart_34 (by decide) (by first | assumption | decide) (fun _ => rfl) (vp_in_nI (by omega) (by decide)) rfl ?_
    refine J_goto (tgt := 55) dX5_putPart_35 (by decide) ?_
    refine J_vret dX5_putPart_55 rfl ?_
    rw [nI_clamp (by omega)]
    refine hq _ ?_
    first
    | (rw [nI_k0 (by omega)] at e_1_0; subst e_1_0; exact hw.row 1 j v)
    | (rw [nI_k1 (by omega)] at e_1_1; subst e_1_1; exact hw.row 2 j v)
    | (rw [nI_k0 (by omega)] at e_1_0; rw [nI_k1 (by omega)] at e_1_1; have ek : k = 2 := by omega
       subst ek; exact hw.row 3 j v)
  by_cases e_1_1 : nI k = 1
  · rw [e_1_1]
    refine J_lookup (off := 37) (tgt := 38) dX5_putPart_1 (by decide) (by decide) (by decide) ?_
    refine J_aload_n (i := 0) (n := 39) dX5_putPart_38 rfl rfl rfl ?_
    refine T_get (k := 2) (n := 42) wk_X5 dX5_putPart_39 wf_X5_18 (by decide) (by first | assumption | decide) rfl rfl ?_
    refine J_iload_n (i := 1) (n := 43) dX5_putPart_42 rfl rfl rfl ?_
    refine J_iload_n (i := 3) (n := 44) dX5_putPart_43 rfl rfl rfl ?_
    refine T_iast (c := 5) (k := 2) (N := 4) (n := 45) dX5_putPart_44 (by decide) (by first | assumption | decide) (fun _ => rfl) (vp_in_nI (by omega) (by decide)) rfl ?_
    refine J_goto (tgt := 55) dX5_putPart_45 (by decide) ?_
    refine J_vret dX5_putPart_55 rfl ?_
    rw [nI_clamp (by omega)]
    refine hq _ ?_
    first
    | (rw [nI_k0 (by omega)] at e_1_0; subst e_1_0; exact hw.row 1 j v)
    | (rw [nI_k1 (by omega)] at e_1_1; subst e_1_1; exact hw.row 2 j v)
    | (rw [nI_k0 (by omega)] at e_1_0; rw [nI_k1 (by omega)] at e_1_1; have ek : k = 2 := by omega
       subst ek; exact hw.row 3 j v)
  refine J_lookup (off := 47) (tgt := 48) dX5_putPart_1 (by decide) (by refine (lv_osw e_1_0 rfl).trans ?_; refine (lv_osw e_1_1 rfl).trans ?_; rfl) (by decide) ?_
  refine J_aload_n (i := 0) (n := 49) dX5_putPart_48 rfl rfl rfl ?_
  refine T_get (k := 3) (n := 52) wk_X5 dX5_putPart_49 wf_X5_21 (by decide) (by first | assumption | decide) rfl rfl ?_
  refine J_iload_n (i := 1) (n := 53) dX5_putPart_52 rfl rfl rfl ?_
  refine J_iload_n (i := 3) (n := 54) dX5_putPart_53 rfl rfl rfl ?_
  refine T_iast (c := 5) (k := 3) (N := 4) (n := 55) dX5_putPart_54 (by decide) (by first | assumption | decide) (fun _ => rfl) (vp_in_nI (by omega) (by decide)) rfl ?_
  refine J_vret dX5_putPart_55 rfl ?_
  rw [nI_clamp (by omega)]
  refine hq _ ?_
  first
  | (rw [nI_k0 (by omega)] at e_1_0; subst e_1_0; exact hw.row 1 j v)
  | (rw [nI_k1 (by omega)] at e_1_1; subst e_1_1; exact hw.row 2 j v)
  | (rw [nI_k0 (by omega)] at e_1_0; rw [nI_k1 (by omega)] at e_1_1; have ek : k = 2 := by omega
     subst ek; exact hw.row 3 j v)

set_option maxHeartbeats 4000000 in
set_option maxRecDepth 100000 in
theorem c_W_moveMan {G : gx_G} {σ : gs_S} {Q : Option Value → gx_Hp → Prop} {p : pw} {w : gs_Ob} (d : Nat) {i e : Nat} (hi : i < gs_cnt 5) (hw : wR w p) (hO : pOk p) (hq : ∀ w1, wR w1 (pw_move p e) → Q none (hp G (gs_set σ 5 i w1))) : gx_K G yX5_moveMan mX5_moveMan (d + 1) 0 0 [.ref (gs_a G 5 i 0), .int (nI e)] (hp G (gs_set σ 5 i w)) Q := by
  have h4 : p.2.2 6 ≤ 4 := hO.2.2.2.2.1
  have loop : ∀ n g w1, p.2.2 6 - g < n → g ≤ p.2.2 6 → wR w1 (pw_mv p e g) → gx_J G mX5_moveMan (d + 1) 0 0 Q 7 [(0, .ref (gs_a G 5 i 0)), (1, .int (nI e)), (2, .int (nI g))] [] (hp G (gs_set σ 5 i w1)) := by
    intro n
    induction n with
    | zero => intros; exact absurd (by assumption) (Nat.not_lt_zero _)
    | succ n ih =>
      intro g w1 hn hg hw1
      have e6 : w1.2.1 6 = nI (p.2.2 6) := hw1.2.2.2.2 6 (by decide) (by decide)
      have hw0 : wR (gs_set σ 5 i w1 5 i) (pw_mv p e g) := by rw [gs_same]; exact hw1
      refine J_iload_n (i := 2) (n := 8) dX5_moveMan_7 rfl rfl rfl ?_
      refine J_aload_n (i := 0) (n := 9) dX5_moveMan_8 rfl rfl rfl ?_
      refine T_get (k := 6) (n := 12) wk_X5 dX5_moveMan_9 wf_X5_37 (by decide) (by first | assumption | decide) rfl rfl ?_
      rw [e6]
      refine J_icmp_ge (tgt := 36) (n := 15) dX5_moveMan_12 (by decide) rfl (fun c_12 => ?_) (fun c_12 => ?_)
      · refine J_vret dX5_moveMan_36 rfl ?_
        refine hq _ ?_
        rw [nI_leI (by omega) (by omega)] at c_12
        have eg : g = p.2.2 6 := by omega
        subst eg
        exact hw1
      · rw [nI_leI (by omega) (by omega)] at c_12
        refine J_aload_n (i := 0) (n := 16) dX5_moveMan_15 rfl rfl rfl ?_
        refine J_iload_n (i := 2) (n := 17) dX5_moveMan_16 rfl rfl rfl ?_
        refine J_callVr (n := 20) wS_X5_isPaired (c_W_isPaired d hi hw0 (by omega) ⟨rfl, rfl⟩) dX5_moveMan_17 wm_X5_58 ⟨wM_X5_isPaired, wV_X5_isPaired⟩ rfl (T_recv (by decide) (by first | assumption | decide)) rfl rfl (Nat.le_of_ble_eq_true rfl) rfl ?_
        refine J_if_eq (tgt := 30) (n := 23) dX5_moveMan_20 (by decide) rfl (fun c_20 => ?_) (fun c_20 => ?_)
        · try rw [nI_clamp (by omega)]
          refine J_inc (i := 2) (n := 33) (lv' := [(0, _), (1, _), (2, _)]) dX5_moveMan_30 rfl (by decide) rfl rfl ?_
          refine J_goto (tgt := 7) dX5_moveMan_33 (by decide) ?_
          first
          | exact ih (g + 1) w1 (by omega) (by omega) (by rw [← pw_mv_n (p := p) (show p.2.1 g = false from (nb_0 _).mp c_20)]; exact hw1)
          | (refine ih (g + 1) _ (by omega) (by omega) ?_
             rw [← pw_mv_t (p := p) (pc_p (p := p) c_20)]
             exact hw1.row 2 g e)
        · refine J_aload_n (i := 0) (n := 24) dX5_moveMan_23 rfl rfl rfl ?_
          refine T_get (k := 2) (n := 27) wk_X5 dX5_moveMan_24 wf_X5_18 (by decide) (by first | assumption | decide) rfl rfl ?_
          refine J_iload_n (i := 2) (n := 28) dX5_moveMan_27 rfl rfl rfl ?_
          refine J_iload_n (i := 1) (n := 29) dX5_moveMan_28 rfl rfl rfl ?_
          refine T_iast (c := 5) (k := 2) (N := 4) (n := 30) dX5_moveMan_29 (by decide) (by first | assumption | decide) (fun _ => rfl) (vp_in_nI (by omega) (by decide)) rfl ?_
          try rw [nI_clamp (by omega)]
          refine J_inc (i := 2) (n := 33) (lv' := [(0, _), (1, _), (2, _)]) dX5_moveMan_30 rfl (by decide) rfl rfl ?_
          refine J_goto (tgt := 7) dX5_moveMan_33 (by decide) ?_
          first
          | exact ih (g + 1) w1 (by omega) (by omega) (by rw [← pw_mv_n (p := p) (show p.2.1 g = false from (nb_0 _).mp c_20)]; exact hw1)
          | (refine ih (g + 1) _ (by omega) (by omega) ?_
             rw [← pw_mv_t (p := p) (pc_p (p := p) c_20)]
             exact hw1.row 2 g e)
  refine gx_K.of' (lv := [(0, _), (1, _)]) (by decide) rfl (by decide) (Nat.le_of_ble_eq_true rfl) rfl ?_
  refine J_aload_n (i := 0) (n := 1) dX5_moveMan_0 rfl rfl rfl ?_
  refine J_iload_n (i := 1) (n := 2) dX5_moveMan_1 rfl rfl rfl ?_
  refine T_putI (k := 8) (n := 5) wk_X5 dX5_moveMan_2 wf_X5_43 (by decide) (by first | assumption | decide) (kN_i _) rfl (Nat.le_of_ble_eq_true rfl) rfl rfl ?_
  refine J_iconst (n := 6) dX5_moveMan_5 kI_0 rfl ?_
  refine J_istore_n (i := 2) (n := 7) (lv' := [(0, _), (1, _), (2, _)]) dX5_moveMan_6 rfl (by decide) rfl rfl ?_
  exact loop (p.2.2 6 + 1) 0 _ (by omega) (by omega) (by rw [pw_mv_0]; exact hw.fld 8 e (by decide))

set_option maxHeartbeats 4000000 in
set_option maxRecDepth 100000 in
theorem c_W_leaveOutCall {G : gx_G} {σ : gs_S} {Q : Option Value → gx_Hp → Prop} {p : pw} {w : gs_Ob} (d : Nat) {i m : Nat} (hi : i < gs_cnt 5) (hw : wR w p) (hO : pOk p) (hm : m < p.2.2 7) (hq : ∀ w1, wR w1 (pw_shun p m) → Q none (hp G (gs_set σ 5 i w1))) : gx_K G yX5_leaveOutCall mX5_leaveOutCall d 0 0 [.ref (gs_a G 5 i 0), .int (nI m)] (hp G (gs_set σ 5 i w)) Q := by
  have h6 : p.2.2 7 ≤ 6 := hO.2.2.2.2.2.1
  have loop : ∀ n g w1, p.2.2 7 - g < n → m ≤ g → g + 1 ≤ p.2.2 7 → wR w1 (pw_sh p m g) → gx_J G mX5_leaveOutCall d 0 0 Q 2 [(0, .ref (gs_a G 5 i 0)), (1, .int (nI m)), (2, .int (nI g))] [] (hp G (gs_set σ 5 i w1)) := by
    intro n
    induction n with
    | zero => intros; exact absurd (by assumption) (Nat.not_lt_zero _)
    | succ n ih =>
      intro g w1 hn hmg hg hw1
      have e7 : w1.2.1 7 = nI (p.2.2 7) := hw1.2.2.2.2 7 (by decide) (by decide)
      refine J_iload_n (i := 2) (n := 3) dX5_leaveOutCall_2 rfl rfl rfl ?_
      refine J_iconst (n := 4) dX5_leaveOutCall_3 kI_1 rfl ?_
      refine J_iadd (n := 5) dX5_leaveOutCall_4 rfl ?_
      refine J_aload_n (i := 0) (n := 6) dX5_leaveOutCall_5 rfl rfl rfl ?_
      refine T_get (k := 7) (n := 9) wk_X5 dX5_leaveOutCall_6 wf_X5_40 (by decide) (by first | assumption | decide) rfl rfl ?_
      rw [nI_add, e7]
      refine J_icmp_ge (tgt := 32) (n := 12) dX5_leaveOutCall_9 (by decide) rfl (fun c_9 => ?_) (fun c_9 => ?_)
      · refine J_aload_n (i := 0) (n := 33) dX5_leaveOutCall_32 rfl rfl rfl ?_
        refine J_dup (n := 34) dX5_leaveOutCall_33 rfl rfl ?_
        refine T_get (k := 7) (n := 37) wk_X5 dX5_leaveOutCall_34 wf_X5_40 (by decide) (by first | assumption | decide) rfl rfl ?_
        refine J_iconst (n := 38) dX5_leaveOutCall_37 kI_1 rfl ?_
        refine J_isub (n := 39) dX5_leaveOutCall_38 rfl ?_
        rw [e7, pk_sub (by omega)]
        refine T_putI (k := 7) (n := 42) wk_X5 dX5_leaveOutCall_39 wf_X5_40 (by decide) (by first | assumption | decide) (kN_i _) rfl (Nat.le_of_ble_eq_true rfl) rfl rfl ?_
        refine J_vret dX5_leaveOutCall_42 rfl ?_
        refine hq _ ?_
        rw [nI_leI (by omega) (by omega)] at c_9
        have eg : g = p.2.2 7 - 1 := by omega
        subst eg
        exact hw1.calls _ (fun j hj hj2 => absurd hj (by show ¬ p.2.2 7 ≤ j; omega))
      · rw [nI_leI (by omega) (by omega)] at c_9
        have er : w1.1 4 (g + 1) = nI (p.1 4 (g + 1)) := by
          rw [hw1.2.2.1 (g + 1) (by show g + 1 < p.2.2 7; omega)]
          show nI (if 4 = 4 ∧ m ≤ g + 1 ∧ g + 1 < g then _ else _) = _
          rw [if_neg (by omega)]
        refine J_aload_n (i := 0) (n := 13) dX5_leaveOutCall_12 rfl rfl rfl ?_
        refine T_get (k := 4) (n := 16) wk_X5 dX5_leaveOutCall_13 wf_X5_24 (by decide) (by first | assumption | decide) rfl rfl ?_
        refine J_iload_n (i := 2) (n := 17) dX5_leaveOutCall_16 rfl rfl rfl ?_
        refine J_aload_n (i := 0) (n := 18) dX5_leaveOutCall_17 rfl rfl rfl ?_
        refine T_get (k := 4) (n := 21) wk_X5 dX5_leaveOutCall_18 wf_X5_24 (by decide) (by first | assumption | decide) rfl rfl ?_
        refine J_iload_n (i := 2) (n := 22) dX5_leaveOutCall_21 rfl rfl rfl ?_
        refine J_iconst (n := 23) dX5_leaveOutCall_22 kI_1 rfl ?_
        refine J_iadd (n := 24) dX5_leaveOutCall_23 rfl ?_
        rw [nI_add]
        refine T_iald (c := 5) (k := 4) (N := 6) (n := 25) dX5_leaveOutCall_24 (by decide) (by first | assumption | decide) rfl (vp_in_nI (by omega) (by decide)) rfl ?_
        rw [nI_clamp (by omega), er]
        refine T_iast (c := 5) (k := 4) (N := 6) (n := 26) dX5_leaveOutCall_25 (by decide) (by first | assumption | decide) (fun _ => rfl) (vp_in_nI (by omega) (by decide)) rfl ?_
        rw [nI_clamp (by omega)]
        refine J_inc (i := 2) (n := 29) (lv' := [(0, _), (1, _), (2, _)]) dX5_leaveOutCall_26 rfl (by decide) rfl rfl ?_
        refine J_goto (tgt := 2) dX5_leaveOutCall_29 (by decide) ?_
        exact ih (g + 1) _ (by omega) (by omega) (by omega) (by rw [← pw_sh_s hmg]; exact hw1.row 4 g _)
  refine gx_K.of' (lv := [(0, _), (1, _)]) (by decide) rfl (by decide) (Nat.le_of_ble_eq_true rfl) rfl ?_
  refine J_iload_n (i := 1) (n := 1) dX5_leaveOutCall_0 rfl rfl rfl ?_
  refine J_istore_n (i := 2) (n := 2) (lv' := [(0, _), (1, _), (2, _)]) dX5_leaveOutCall_1 rfl (by decide) rfl rfl ?_
  exact loop (p.2.2 7 + 1) m _ (by omega) (by omega) (by omega) (by rw [pw_sh_0]; exact hw)

set_option maxHeartbeats 4000000 in
set_option maxRecDepth 100000 in
theorem c_fill_W {G : gx_G} {σ : gs_S} {Q : Option Value → gx_Hp → Prop} {w : gs_Ob} (d : Nat) {i : Nat} (x : Int32) (hi : i < gs_cnt 5) (hq : ∀ w1 : gs_Ob, (∀ q, q < 12 → w1.1 0 q = x) → (∀ k, k ≠ 0 → w1.1 k = w.1 k) → w1.2 = w.2 → Q none (hp G (gs_set σ 5 i w1))) : gx_K G yJ7_fill_53178 mJ7_fill_53178 d 0 0 [.ref (gs_a G 5 i 1), .int x] (hp G (gs_set σ 5 i w)) Q := by
  have loop : ∀ n g (w1 : gs_Ob), 12 - g < n → g ≤ 12 → (∀ q, q < g → w1.1 0 q = x) → (∀ k, k ≠ 0 → w1.1 k = w.1 k) → w1.2 = w.2 → gx_J G mJ7_fill_53178 d 0 0 Q 5 [(0, .ref (gs_a G 5 i 1)), (1, .int x), (2, .int (nI g)), (3, .int (nI 12))] [] (hp G (gs_set σ 5 i w1)) := by
    intro n
    induction n with
    | zero => intros; exact absurd (by assumption) (Nat.not_lt_zero _)
    | succ n ih =>
      intro g w1 hn hg ha hb hc
      refine J_iload_n (i := 2) (n := 6) dJ7_fill_53178_5 rfl rfl rfl ?_
      refine J_iload_n (i := 3) (n := 7) dJ7_fill_53178_6 rfl rfl rfl ?_
      refine J_icmp_ge (tgt := 20) (n := 10) dJ7_fill_53178_7 (by decide) rfl (fun c_7 => ?_) (fun c_7 => ?_)
      · refine J_vret dJ7_fill_53178_20 rfl ?_
        rw [nI_leI (by omega) (by omega)] at c_7
        exact hq w1 (fun q hq1 => ha q (by omega)) hb hc
      · rw [nI_leI (by omega) (by omega)] at c_7
        refine J_aload_n (i := 0) (n := 11) dJ7_fill_53178_10 rfl rfl rfl ?_
        refine J_iload_n (i := 2) (n := 12) dJ7_fill_53178_11 rfl rfl rfl ?_
        refine J_iload_n (i := 1) (n := 13) dJ7_fill_53178_12 rfl rfl rfl ?_
        refine T_iast (c := 5) (k := 0) (N := 12) (n := 14) dJ7_fill_53178_13 (by decide) (by first | assumption | decide) (fun _ => rfl) (vp_in_nI (by omega) (by decide)) rfl ?_
        rw [nI_clamp (by omega)]
        refine J_inc (i := 2) (n := 17) (lv' := [(0, _), (1, _), (2, _), (3, _)]) dJ7_fill_53178_14 rfl (by decide) rfl rfl ?_
        refine J_goto (tgt := 5) dJ7_fill_53178_17 (by decide) ?_
        refine ih (g + 1) _ (by omega) (by omega) (fun q hq1 => ?_) (fun k hk => ?_) ?_
        · show va_up w1.1 0 (upd (w1.1 0) g x) 0 q = x
          by_cases e : q = g
          · subst e; simp [va_up, upd]
          · simp [va_up, upd, e]; exact ha q (by omega)
        · show va_up w1.1 0 (upd (w1.1 0) g x) k = w.1 k
          simp [va_up, hk]; exact hb k hk
        · exact hc
  refine gx_K.of' (lv := [(0, _), (1, _)]) (by decide) rfl (by decide) (Nat.le_of_ble_eq_true rfl) rfl ?_
  refine J_iconst (n := 1) dJ7_fill_53178_0 kI_0 rfl ?_
  refine J_istore_n (i := 2) (n := 2) (lv' := [(0, _), (1, _), (2, _)]) dJ7_fill_53178_1 rfl (by decide) rfl rfl ?_
  refine J_aload_n (i := 0) (n := 3) dJ7_fill_53178_2 rfl rfl rfl ?_
  refine T_alen (c := 5) (k := 0) (t := 0) (v := 12) (n := 4) dJ7_fill_53178_3 (by decide) (by first | assumption | decide) rfl rfl rfl rfl ?_
  refine J_istore_n (i := 3) (n := 5) (lv' := [(0, _), (1, _), (2, _), (3, _)]) dJ7_fill_53178_4 rfl (by decide) rfl rfl ?_
  exact loop (12 + 1) 0 w (by omega) (by omega) (fun q h => absurd h (Nat.not_lt_zero _)) (fun _ _ => rfl) rfl

set_option maxHeartbeats 4000000 in
set_option maxRecDepth 100000 in
theorem c_fill_S {G : gx_G} {σ : gs_S} {Q : Option Value → gx_Hp → Prop} {w : gs_Ob} (d : Nat) {i : Nat} (x : Int32) (hi : i < gs_cnt 1) (hq : ∀ w1 : gs_Ob, (∀ q, q < 40 → w1.1 0 q = x) → (∀ k, k ≠ 0 → w1.1 k = w.1 k) → w1.2 = w.2 → Q none (hp G (gs_set σ 1 i w1))) : gx_K G yJ7_fill_53178 mJ7_fill_53178 d 0 0 [.ref (gs_a G 1 i 1), .int x] (hp G (gs_set σ 1 i w)) Q := by
  have loop : ∀ n g (w1 : gs_Ob), 40 - g < n → g ≤ 40 → (∀ q, q < g → w1.1 0 q = x) → (∀ k, k ≠ 0 → w1.1 k = w.1 k) → w1.2 = w.2 → gx_J G mJ7_fill_53178 d 0 0 Q 5 [(0, .ref (gs_a G 1 i 1)), (1, .int x), (2, .int (nI g)), (3, .int (nI 40))] [] (hp G (gs_set σ 1 i w1)) := by
    intro n
    induction n with
    | zero => intros; exact absurd (by assumption) (Nat.not_lt_zero _)
    | succ n ih =>
      intro g w1 hn hg ha hb hc
      refine J_iload_n (i := 2) (n := 6) dJ7_fill_53178_5 rfl rfl rfl ?_
      refine J_iload_n (i := 3) (n := 7) dJ7_fill_53178_6 rfl rfl rfl ?_
      refine J_icmp_ge (tgt := 20) (n := 10) dJ7_fill_53178_7 (by decide) rfl (fun c_7 => ?_) (fun c_7 => ?_)
      · refine J_vret dJ7_fill_53178_20 rfl ?_
        rw [nI_leI (by omega) (by omega)] at c_7
        exact hq w1 (fun q hq1 => ha q (by omega)) hb hc
      · rw [nI_leI (by omega) (by omega)] at c_7
        refine J_aload_n (i := 0) (n := 11) dJ7_fill_53178_10 rfl rfl rfl ?_
        refine J_iload_n (i := 2) (n := 12) dJ7_fill_53178_11 rfl rfl rfl ?_
        refine J_iload_n (i := 1) (n := 13) dJ7_fill_53178_12 rfl rfl rfl ?_
        refine T_iast (c := 1) (k := 0) (N := 40) (n := 14) dJ7_fill_53178_13 (by decide) (by first | assumption | decide) (fun _ => rfl) (vp_in_nI (by omega) (by decide)) rfl ?_
        rw [nI_clamp (by omega)]
        refine J_inc (i := 2) (n := 17) (lv' := [(0, _), (1, _), (2, _), (3, _)]) dJ7_fill_53178_14 rfl (by decide) rfl rfl ?_
        refine J_goto (tgt := 5) dJ7_fill_53178_17 (by decide) ?_
        refine ih (g + 1) _ (by omega) (by omega) (fun q hq1 => ?_) (fun k hk => ?_) ?_
        · show va_up w1.1 0 (upd (w1.1 0) g x) 0 q = x
          by_cases e : q = g
          · subst e; simp [va_up, upd]
          · simp [va_up, upd, e]; exact ha q (by omega)
        · show va_up w1.1 0 (upd (w1.1 0) g x) k = w.1 k
          simp [va_up, hk]; exact hb k hk
        · exact hc
  refine gx_K.of' (lv := [(0, _), (1, _)]) (by decide) rfl (by decide) (Nat.le_of_ble_eq_true rfl) rfl ?_
  refine J_iconst (n := 1) dJ7_fill_53178_0 kI_0 rfl ?_
  refine J_istore_n (i := 2) (n := 2) (lv' := [(0, _), (1, _), (2, _)]) dJ7_fill_53178_1 rfl (by decide) rfl rfl ?_
  refine J_aload_n (i := 0) (n := 3) dJ7_fill_53178_2 rfl rfl rfl ?_
  refine T_alen (c := 1) (k := 0) (t := 0) (v := 40) (n := 4) dJ7_fill_53178_3 (by decide) (by first | assumption | decide) rfl rfl rfl rfl ?_
  refine J_istore_n (i := 3) (n := 5) (lv' := [(0, _), (1, _), (2, _), (3, _)]) dJ7_fill_53178_4 rfl (by decide) rfl rfl ?_
  exact loop (40 + 1) 0 w (by omega) (by omega) (fun q h => absurd h (Nat.not_lt_zero _)) (fun _ _ => rfl) rfl

