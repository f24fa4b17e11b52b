/-! ===== read ===== -/
def pf (x : (Nat → Int32) × Nat × Nat) (l : Nat) (v : Int32) : Nat := if x.2.1 = 9 then 1 else if ¬ x.2.1 = l then 3 else if fa x v = 0 then fa x (v + nI 1) else fa x v
def rk (S : pS) (x : (Nat → Int32) × Nat × Nat) (l : Nat) (f : Int32) : Nat → Nat → (Nat × Nat) ⊕ Nat
  | 0, i => .inl (0, i)
  | m + 1, i => if pf x l (f + nI (2 * i)) = 0 then (if sp_no S (x.1 (nat f + 2 * i)) (nI 1) (x.1 (nat f + 2 * i + 1)) = nI 0 then rk S x l f m (i + 1) else .inr i) else .inl (pf x l (f + nI (2 * i)), i)
def rap (S : pS) (x : (Nat → Int32) × Nat × Nat) (f : Int32) : Nat → pw
  | 0 => S.1.1
  | j + 1 => pw_a (rap S x f j) 2 (nat (x.1 (nat f + 2 * j))) (nat (x.1 (nat f + 2 * j + 1)))
def rd (S : pS) (x : (Nat → Int32) × Nat × Nat) (f : Int32) (r : (Nat × Nat) ⊕ Nat) : Int32 × pS := match r with
  | .inl a => (nI a.2, pS_f (pS_p S (rap S x f a.2)) 1 a.1)
  | .inr i => (-20 - nI i, S)
def sp_read (S : pS) (k l f n : Int32) : Int32 × pS := if (ix_in k 3 && (ix_in l 2 && ix_in n 20)) = true then rd S (S.2.2.2.2.2 (nat k)) f (rk S (S.2.2.2.2.2 (nat k)) (nat l) f (nat n) 0) else (-1, S)
theorem pf_le (x : (Nat → Int32) × Nat × Nat) (l : Nat) (v : Int32) : pf x l v ≤ 3 := by
  have h : ∀ v, fa x v ≤ 2 := by
    intro v
    unfold fa
    split
    · decide
    · split <;> decide
  unfold pf
  split
  · decide
  · split
    · decide
    · split
      · exact Nat.le_succ_of_le (h _)
      · exact Nat.le_succ_of_le (h _)
theorem fa_0 {x : (Nat → Int32) × Nat × Nat} {v : Int32} (h : fa x v = 0) (h40 : x.2.2 ≤ 40) : ¬ x.2.1 = 9 ∧ ∃ m, v = nI m ∧ m < x.2.2 := by
  unfold fa at h
  by_cases h9 : x.2.1 = 9
  · rw [if_pos h9] at h; cases h
  · rw [if_neg h9] at h
    split at h
    · next hin =>
      obtain ⟨j, hj, rfl⟩ := ix1_of hin (by omega)
      exact ⟨h9, j, rfl, hj⟩
    · cases h
theorem pf_0 {x : (Nat → Int32) × Nat × Nat} {l : Nat} {v : Int32} (h : pf x l v = 0) (h40 : x.2.2 ≤ 40) : ¬ x.2.1 = 9 ∧ x.2.1 = l ∧ ∃ m, v = nI m ∧ m + 1 < x.2.2 := by
  unfold pf at h
  by_cases h9 : x.2.1 = 9
  · rw [if_pos h9] at h; cases h
  · rw [if_neg h9] at h
    by_cases hl : x.2.1 = l
    · rw [if_neg (Classical.not_not.mpr hl)] at h
      by_cases hv : fa x v = 0
      · rw [if_pos hv] at h
        obtain ⟨-, m, rfl, hm⟩ := fa_0 hv h40
        rw [nI_add] at h
        obtain ⟨-, m2, e2, hm2⟩ := fa_0 h h40
        rw [nI_eq (by omega) (by omega)] at e2
        exact ⟨h9, hl, m, rfl, by omega⟩
      · rw [if_neg hv] at h; exact absurd h hv
    · rw [if_pos hl] at h; cases h
def ivx (x : (Nat → Int32) × Nat × Nat) (f : Int32) (i : Nat) : Prop := i = 0 ∨ ∃ m, f = nI m ∧ m + 2 * i ≤ x.2.2
theorem pf_at {x : (Nat → Int32) × Nat × Nat} {l i : Nat} {f : Int32} (hi : ivx x f i) (h : pf x l (f + nI (2 * i)) = 0) (h40 : x.2.2 ≤ 40) : ∃ m, f = nI m ∧ m + 2 * i + 1 < x.2.2 := by
  obtain ⟨-, -, m, e, hm⟩ := pf_0 h h40
  rcases hi with rfl | ⟨m0, rfl, h0⟩
  · refine ⟨m, ?_, by omega⟩
    rw [← e]
    show f = f + 0
    rw [Int32.add_zero]
  · rw [nI_add, nI_eq (by omega) (by omega)] at e
    exact ⟨m0, rfl, by omega⟩
theorem no_of {S : pS} {g z : Int32} (h : sp_no S g (nI 1) z = nI 0) (hO : pOk S.1.1) : ∃ j e, j < S.1.1.2.2 6 ∧ e ≤ 11 ∧ g = nI j ∧ z = nI e ∧ S.1.1.2.1 j = false := by
  unfold sp_no at h
  split at h
  · next hb =>
    rw [Bool.and_eq_true] at hb
    obtain ⟨j, hj, rfl⟩ := isG_of hb.1 hO
    have h2 := hb.2
    unfold grb at h2
    rw [if_neg (by decide +kernel), if_pos (by decide +kernel)] at h2
    obtain ⟨e, he, rfl⟩ := ix_of h2 (by decide)
    refine ⟨j, e, hj, he, rfl, rfl, ?_⟩
    have h4 : S.1.1.2.2 6 ≤ 4 := hO.2.2.2.2.1
    rw [nat_nI (by omega)] at h
    cases hp0 : S.1.1.2.1 j with
    | false => rfl
    | true => rw [if_pos ⟨by decide +kernel, hp0⟩] at h; exact absurd h (by decide +kernel)
  · exact absurd h (by decide +kernel)
def okU (S : pS) (x : (Nat → Int32) × Nat × Nat) (f : Int32) (w : Nat) : Prop := ∀ j, j < w → ∃ m, f = nI m ∧ m + 2 * j + 1 < 40 ∧ sp_no S (x.1 (m + 2 * j)) (nI 1) (x.1 (m + 2 * j + 1)) = nI 0
theorem rap_2 (S : pS) (x : (Nat → Int32) × Nat × Nat) (f : Int32) (j : Nat) : (rap S x f j).2 = S.1.1.2 := by
  induction j with
  | zero => rfl
  | succ j ih => exact ih
theorem cR.fault {σ : gs_S} {S : pS} (h : cR σ S) {k : Nat} (x : Nat) (hk : k = 0 ∨ k = 1) : cR (gs_set σ 6 0 (gs_f (σ 6 0) (7 + k) (nI x))) (pS_f S k x) := by
  obtain ⟨h1, h2, h3, h4, h5⟩ := h
  have e : ∀ c i, c ≠ 6 → gs_set σ 6 0 (gs_f (σ 6 0) (7 + k) (nI x)) c i = σ c i := fun c i hc => gs_neC hc
  refine ⟨h1.same (e 5 0 (by decide)) (e 2 0 (by decide)), fun j hj => ?_, ?_, ?_, fun j hj => ?_⟩
  · rw [e 0 j (by decide)]
    exact ⟨(h2 j hj).1, fun q => ((h2 j hj).2 q).same (e 5 (11 + j) (by decide)) (e 2 (1 + j) (by decide))⟩
  · rw [e 3 0 (by decide)]; exact h3
  · rw [gs_same]
    rcases hk with rfl | rfl
    · exact ⟨by simp [gs_f, upd, pS_f], by simp [gs_f, upd, pS_f]; exact h4.2⟩
    · exact ⟨by simp [gs_f, upd, pS_f]; exact h4.1, by simp [gs_f, upd, pS_f]⟩
  · rw [e 1 j (by decide)]; exact h5 j hj
set_option maxHeartbeats 4000000 in
set_option maxRecDepth 100000 in
theorem c_H_faultAtPair {G : gx_G} {σ : gs_S} {Q : Option Value → gx_Hp → Prop} (d : Nat) {i : Nat} {x : (Nat → Int32) × Nat × Nat} (hi : i < gs_cnt 1) (hl : (σ 1 i).2.1 1 = (if x.2.1 = 9 then -1 else nI x.2.1)) (hb : x.2.1 ≤ 2 ∨ x.2.1 = 9) (hz : (σ 1 i).2.1 2 = nI x.2.2) (h40 : x.2.2 ≤ 40) {l : Nat} (hl2 : l ≤ 2) (v : Int32) (hq : Q (some (.int (nI (pf x l v)))) (hp G σ)) : gx_K G yX1_faultAtPair mX1_faultAtPair (d + 2) 0 0 [.ref (gs_a G 1 i 0), .int (nI l), .int v] (hp G σ) Q := by
  have hfb : ∀ z, fa x z ≤ 2 := by
    intro z
    unfold fa
    split
    · decide
    · split <;> decide
  refine gx_K.of' (lv := [(0, _), (1, _), (2, _)]) (by decide) rfl (by decide) (Nat.le_of_ble_eq_true rfl) rfl ?_
  refine J_aload_n (i := 0) (n := 1) dX1_faultAtPair_0 rfl rfl rfl ?_
  refine J_callVr (n := 4) wS_X1_isNothing (c_H_isNothing (d + 1) hi hl hb ⟨rfl, rfl⟩) dX1_faultAtPair_1 wm_X1_28 ⟨wM_X1_isNothing, wV_X1_isNothing⟩ rfl (T_recv (by decide) (by first | assumption | decide)) rfl rfl (Nat.le_of_ble_eq_true rfl) rfl ?_
  refine J_if_ne (tgt := 17) (n := 7) dX1_faultAtPair_4 (by decide) rfl (fun c_4 => ?_) (fun c_4 => ?_)
  · have hf9 : x.2.1 = 9 ∨ x.2.1 = l := by
      first
      | (rw [nb_t, decide_eq_true_eq] at c_4; exact Or.inl c_4)
      | (rw [nI_eq (by omega) (by omega)] at c_12; exact Or.inr (by omega))
    have hv1 := hfb v
    refine J_aload_n (i := 0) (n := 18) dX1_faultAtPair_17 rfl rfl rfl ?_
    refine J_iload_n (i := 2) (n := 19) dX1_faultAtPair_18 rfl rfl rfl ?_
    refine J_callVr (n := 22) wS_X1_faultAt (c_H_faultAt d hi hl hb hz h40 v ⟨rfl, rfl⟩) dX1_faultAtPair_19 wm_X1_36 ⟨wM_X1_faultAt, wV_X1_faultAt⟩ rfl (T_recv (by decide) (by first | assumption | decide)) rfl rfl (Nat.le_of_ble_eq_true rfl) rfl ?_
    refine J_istore_n (i := 3) (n := 23) (lv' := [(0, _), (1, _), (2, _), (3, _)]) dX1_faultAtPair_22 rfl (by decide) rfl rfl ?_
    refine J_iload_n (i := 3) (n := 24) dX1_faultAtPair_23 rfl rfl rfl ?_
    refine J_if_eq (tgt := 31) (n := 27) dX1_faultAtPair_24 (by decide) rfl (fun c_24 => ?_) (fun c_24 => ?_)
    · refine J_aload_n (i := 0) (n := 32) dX1_faultAtPair_31 rfl rfl rfl ?_
      refine J_iload_n (i := 2) (n := 33) dX1_faultAtPair_32 rfl rfl rfl ?_
      refine J_iconst (n := 34) dX1_faultAtPair_33 kI_1 rfl ?_
      refine J_iadd (n := 35) dX1_faultAtPair_34 rfl ?_
      refine J_callVr (n := 38) wS_X1_faultAt (c_H_faultAt d hi hl hb hz h40 (v + nI 1) ⟨rfl, rfl⟩) dX1_faultAtPair_35 wm_X1_36 ⟨wM_X1_faultAt, wV_X1_faultAt⟩ rfl (T_recv (by decide) (by first | assumption | decide)) rfl rfl (Nat.le_of_ble_eq_true rfl) rfl ?_
      refine J_iret dX1_faultAtPair_38 rfl (kN_i _) ?_
      rw [nI_k0 (by omega)] at c_24
      unfold pf at hq
      by_cases h9 : x.2.1 = 9
      · have hfv : fa x v = 1 := by unfold fa; rw [if_pos h9]
        rw [if_pos h9] at hq
        first
        | (rw [hfv] at c_24; exact absurd c_24 (by decide))
        | (rw [hfv]; exact hq)
      · have hxl : x.2.1 = l := by omega
        rw [if_neg h9, if_neg (Classical.not_not.mpr hxl)] at hq
        first
        | (rw [if_pos c_24] at hq; exact hq)
        | (rw [if_neg c_24] at hq; exact hq)
    · refine J_iload_n (i := 3) (n := 28) dX1_faultAtPair_27 rfl rfl rfl ?_
      refine J_goto (tgt := 38) dX1_faultAtPair_28 (by decide) ?_
      refine J_iret dX1_faultAtPair_38 rfl (kN_i _) ?_
      rw [nI_k0 (by omega)] at c_24
      unfold pf at hq
      by_cases h9 : x.2.1 = 9
      · have hfv : fa x v = 1 := by unfold fa; rw [if_pos h9]
        rw [if_pos h9] at hq
        first
        | (rw [hfv] at c_24; exact absurd c_24 (by decide))
        | (rw [hfv]; exact hq)
      · have hxl : x.2.1 = l := by omega
        rw [if_neg h9, if_neg (Classical.not_not.mpr hxl)] at hq
        first
        | (rw [if_pos c_24] at hq; exact hq)
        | (rw [if_neg c_24] at hq; exact hq)
  · refine J_aload_n (i := 0) (n := 8) dX1_faultAtPair_7 rfl rfl rfl ?_
    refine T_getO (k := 1) (n := 11) wk_X1 dX1_faultAtPair_8 wf_X1_15 (by decide) (by first | assumption | decide) rfl rfl ?_
    rw [nb_0, decide_eq_false_iff_not] at c_4
    rw [hl, if_neg c_4]
    refine J_iload_n (i := 1) (n := 12) dX1_faultAtPair_11 rfl rfl rfl ?_
    refine J_icmp_eq (tgt := 17) (n := 15) dX1_faultAtPair_12 (by decide) rfl (fun c_12 => ?_) (fun c_12 => ?_)
    · have hf9 : x.2.1 = 9 ∨ x.2.1 = l := by
        first
        | (rw [nb_t, decide_eq_true_eq] at c_4; exact Or.inl c_4)
        | (rw [nI_eq (by omega) (by omega)] at c_12; exact Or.inr (by omega))
      have hv1 := hfb v
      refine J_aload_n (i := 0) (n := 18) dX1_faultAtPair_17 rfl rfl rfl ?_
      refine J_iload_n (i := 2) (n := 19) dX1_faultAtPair_18 rfl rfl rfl ?_
      refine J_callVr (n := 22) wS_X1_faultAt (c_H_faultAt d hi hl hb hz h40 v ⟨rfl, rfl⟩) dX1_faultAtPair_19 wm_X1_36 ⟨wM_X1_faultAt, wV_X1_faultAt⟩ rfl (T_recv (by decide) (by first | assumption | decide)) rfl rfl (Nat.le_of_ble_eq_true rfl) rfl ?_
      refine J_istore_n (i := 3) (n := 23) (lv' := [(0, _), (1, _), (2, _), (3, _)]) dX1_faultAtPair_22 rfl (by decide) rfl rfl ?_
      refine J_iload_n (i := 3) (n := 24) dX1_faultAtPair_23 rfl rfl rfl ?_
      refine J_if_eq (tgt := 31) (n := 27) dX1_faultAtPair_24 (by decide) rfl (fun c_24 => ?_) (fun c_24 => ?_)
      · refine J_aload_n (i := 0) (n := 32) dX1_faultAtPair_31 rfl rfl rfl ?_
        refine J_iload_n (i := 2) (n := 33) dX1_faultAtPair_32 rfl rfl rfl ?_
        refine J_iconst (n := 34) dX1_faultAtPair_33 kI_1 rfl ?_
        refine J_iadd (n := 35) dX1_faultAtPair_34 rfl ?_
        refine J_callVr (n := 38) wS_X1_faultAt (c_H_faultAt d hi hl hb hz h40 (v + nI 1) ⟨rfl, rfl⟩) dX1_faultAtPair_35 wm_X1_36 ⟨wM_X1_faultAt, wV_X1_faultAt⟩ rfl (T_recv (by decide) (by first | assumption | decide)) rfl rfl (Nat.le_of_ble_eq_true rfl) rfl ?_
        refine J_iret dX1_faultAtPair_38 rfl (kN_i _) ?_
        rw [nI_k0 (by omega)] at c_24
        unfold pf at hq
        by_cases h9 : x.2.1 = 9
        · have hfv : fa x v = 1 := by unfold fa; rw [if_pos h9]
          rw [if_pos h9] at hq
          first
          | (rw [hfv] at c_24; exact absurd c_24 (by decide))
          | (rw [hfv]; exact hq)
        · have hxl : x.2.1 = l := by omega
          rw [if_neg h9, if_neg (Classical.not_not.mpr hxl)] at hq
          first
          | (rw [if_pos c_24] at hq; exact hq)
          | (rw [if_neg c_24] at hq; exact hq)
      · refine J_iload_n (i := 3) (n := 28) dX1_faultAtPair_27 rfl rfl rfl ?_
        refine J_goto (tgt := 38) dX1_faultAtPair_28 (by decide) ?_
        refine J_iret dX1_faultAtPair_38 rfl (kN_i _) ?_
        rw [nI_k0 (by omega)] at c_24
        unfold pf at hq
        by_cases h9 : x.2.1 = 9
        · have hfv : fa x v = 1 := by unfold fa; rw [if_pos h9]
          rw [if_pos h9] at hq
          first
          | (rw [hfv] at c_24; exact absurd c_24 (by decide))
          | (rw [hfv]; exact hq)
        · have hxl : x.2.1 = l := by omega
          rw [if_neg h9, if_neg (Classical.not_not.mpr hxl)] at hq
          first
          | (rw [if_pos c_24] at hq; exact hq)
          | (rw [if_neg c_24] at hq; exact hq)
    · refine J_iconst (n := 16) dX1_faultAtPair_15 kI_3 rfl ?_
      refine J_iret dX1_faultAtPair_16 rfl (kN_i _) ?_
      rw [nI_eq (by omega) (by omega)] at c_12
      unfold pf at hq
      rw [if_neg c_4, if_pos (by omega)] at hq
      exact hq

theorem rk_s (S : pS) (x : (Nat → Int32) × Nat × Nat) (l : Nat) (f : Int32) (m i : Nat) : rk S x l f (m + 1) i = if pf x l (f + nI (2 * i)) = 0 then (if sp_no S (x.1 (nat f + 2 * i)) (nI 1) (x.1 (nat f + 2 * i + 1)) = nI 0 then rk S x l f m (i + 1) else .inr i) else .inl (pf x l (f + nI (2 * i)), i) := rfl
set_option maxHeartbeats 4000000 in
set_option maxRecDepth 100000 in
theorem c_G_read {G : gx_G} {σ : gs_S} {Q : Option Value → gx_Hp → Prop} {S : pS} (d : Nat) (x y f z : Int32) (hS : SOk S) (hc : cR σ S) (hq : ∀ τ, cR τ (sp_read S x y f z).2 → τ 7 0 = σ 7 0 → Q (some (.int (sp_read S x y f z).1)) (hp G τ)) : gx_K G yX6_read mX6_read (d + 12) 0 0 [.ref (gs_a G 6 0 0), .int x, .int y, .int f, .int z] (hp G σ) Q := by
  obtain ⟨hw, hs⟩ := hc.1
  have hO := hS.1.1
  have h4 : S.1.1.2.2 6 ≤ 4 := hO.2.2.2.2.1
  have h6 : S.1.1.2.2 7 ≤ 6 := hO.2.2.2.2.2.1
  have hm11 : S.1.1.2.2 8 ≤ 11 := hO.2.2.2.2.2.2.1
  have hn9 : S.1.1.2.2 9 ≤ 9999 := hO.2.2.2.2.2.2.2
  have hd9 : S.1.1.2.2 10 ≤ 999 := hS.1.2.2.1
  have e6 := hw.2.2.2.2 6 (by decide) (by decide)
  have e7 := hw.2.2.2.2 7 (by decide) (by decide)
  have e8 := hw.2.2.2.2 8 (by decide) (by decide)
  have e9 := hw.2.2.2.2 9 (by decide) (by decide)
  have e10 := hw.2.2.2.2 10 (by decide) (by decide)
  refine gx_K.of' (lv := [(0, _), (1, _), (2, _), (3, _), (4, _)]) (by decide) rfl (by decide) (Nat.le_of_ble_eq_true rfl) rfl ?_
  refine J_iload_n (i := 1) (n := 1) dX6_read_0 rfl rfl rfl ?_
  refine J_callSr (n := 4) wS_X6_isSheet (c_isSheet (d + 10) x ⟨rfl, rfl⟩) dX6_read_1 wm_X6_229 wT_X6_isSheet rfl rfl (Nat.le_of_ble_eq_true rfl) rfl ?_
  refine J_if_eq (tgt := 25) (n := 7) dX6_read_4 (by decide) rfl (fun c_4 => ?_) (fun c_4 => ?_)
  · refine J_iconst (n := 26) dX6_read_25 kI_m1 rfl ?_
    refine J_iret dX6_read_26 rfl (kN_i _) ?_
    unfold sp_read at hq
    rw [if_neg (by
      first
      | (rw [nb_0] at c_4; rw [c_4, Bool.false_and]; decide)
      | (rw [nb_0] at c_12; rw [c_12, Bool.false_and, Bool.and_false]; decide)
      | (rw [nb_0] at c_22; rw [c_22, Bool.and_false, Bool.and_false]; decide))] at hq
    exact hq σ hc rfl
  · refine J_iload_n (i := 2) (n := 8) dX6_read_7 rfl rfl rfl ?_
    refine J_iconst (n := 9) dX6_read_8 kI_2 rfl ?_
    refine J_callSr (n := 12) wS_X6_isWithin (c_isWithin (d + 11) y 2 ⟨rfl, rfl⟩) dX6_read_9 wm_X6_51 wT_X6_isWithin rfl rfl (Nat.le_of_ble_eq_true rfl) rfl ?_
    refine J_if_eq (tgt := 25) (n := 15) dX6_read_12 (by decide) rfl (fun c_12 => ?_) (fun c_12 => ?_)
    · refine J_iconst (n := 26) dX6_read_25 kI_m1 rfl ?_
      refine J_iret dX6_read_26 rfl (kN_i _) ?_
      unfold sp_read at hq
      rw [if_neg (by
        first
        | (rw [nb_0] at c_4; rw [c_4, Bool.false_and]; decide)
        | (rw [nb_0] at c_12; rw [c_12, Bool.false_and, Bool.and_false]; decide)
        | (rw [nb_0] at c_22; rw [c_22, Bool.and_false, Bool.and_false]; decide))] at hq
      exact hq σ hc rfl
    · refine J_iload (i := 4) (n := 17) dX6_read_15 rfl rfl ?_
      refine J_bipush (n := 19) dX6_read_17 kB_20 rfl ?_
      refine J_callSr (n := 22) wS_X6_isWithin (c_isWithin (d + 11) z 20 ⟨rfl, rfl⟩) dX6_read_19 wm_X6_51 wT_X6_isWithin rfl rfl (Nat.le_of_ble_eq_true rfl) rfl ?_
      refine J_if_ne (tgt := 27) (n := 25) dX6_read_22 (by decide) rfl (fun c_22 => ?_) (fun c_22 => ?_)
      · rw [nb_t] at c_4 c_12 c_22
        unfold sp_read at hq
        rw [if_pos (by rw [c_4, c_12, c_22]; rfl)] at hq
        obtain ⟨k, hk3, rfl⟩ := ix_of c_4 (by decide)
        obtain ⟨l, hl2, rfl⟩ := ix_of c_12 (by decide)
        obtain ⟨n, hn20, rfl⟩ := ix_of c_22 (by decide)
        rw [nat_nI (by omega), nat_nI (by omega), nat_nI (by omega)] at hq
        have hk2 : k < gs_cnt 1 := by show k < 4; omega
        obtain ⟨hxc, hxl, hxz⟩ := hc.2.2.2.2 k (by omega)
        obtain ⟨hx40, hxb⟩ := hS.2.2.2 k (by omega)
        refine J_aload_n (i := 0) (n := 28) dX6_read_27 rfl rfl rfl ?_
        refine T_getO (k := 6) (n := 31) wk_X6 dX6_read_28 wf_X6_45 (by decide) (by first | assumption | decide) rfl rfl ?_
        refine J_iload_n (i := 1) (n := 32) dX6_read_31 rfl rfl rfl ?_
        refine T_aald (k := 6) (t := 5) (N := 4) (n := 33) dX6_read_32 (by decide) rfl rfl (vp_in_nI (by omega) (by decide)) rfl rfl ?_
        rw [nI_clamp (by omega)]
        refine J_astore (i := 5) (n := 35) (lv' := [(0, _), (1, _), (2, _), (3, _), (4, _), (5, _)]) dX6_read_33 (by decide) rfl rfl ?_
        refine J_iconst (n := 36) dX6_read_35 kI_0 rfl ?_
        refine J_istore (i := 6) (n := 38) (lv' := [(0, _), (1, _), (2, _), (3, _), (4, _), (5, _), (6, _)]) dX6_read_36 (by decide) rfl rfl ?_
        refine J_iconst (n := 39) dX6_read_38 kI_0 rfl ?_
        refine J_istore (i := 7) (n := 41) (lv' := [(0, _), (1, _), (2, _), (3, _), (4, _), (5, _), (6, _), (7, _)]) dX6_read_39 (by decide) rfl rfl ?_
        refine J_iconst (n := 42) dX6_read_41 kI_0 rfl ?_
        refine J_istore (i := 8) (n := 44) (lv' := [(0, _), (1, _), (2, _), (3, _), (4, _), (5, _), (6, _), (7, _), (8, _)]) dX6_read_42 (by decide) rfl rfl ?_
        have hxi : ∀ τ : gs_S, τ 1 k = σ 1 k → ((∀ q, q < 40 → (τ 1 k).1 0 q = (S.2.2.2.2.2 k).1 q)) := fun τ ht q hq0 => by rw [ht]; exact hxc q hq0
        have ap : ∀ u e fd wh w0, wh - e < u → e ≤ wh → wh ≤ 20 → okU S (S.2.2.2.2.2 k) f wh → wR w0 (rap S (S.2.2.2.2.2 k) f e) → rk S (S.2.2.2.2.2 k) l f n 0 = .inl (fd, wh) → gx_J G mX6_read (d + 12) 0 0 Q 127 [(0, .ref (gs_a G 6 0 0)), (1, .int (nI k)), (2, .int (nI l)), (3, .int f), (4, .int (nI n)), (5, .ref (gs_a G 1 k 0)), (6, .int (nI fd)), (7, .int (nI wh)), (8, .int (nI e))] [] (hp G (gs_set σ 5 0 w0)) := by
          intro u
          induction u with
          | zero => intros; exact absurd (by assumption) (Nat.not_lt_zero _)
          | succ u ih =>
            intro e fd wh w0 hu he hw20 hok hw0 hrk
            refine J_iload (i := 8) (n := 129) dX6_read_127 rfl rfl ?_
            refine J_iload (i := 7) (n := 131) dX6_read_129 rfl rfl ?_
            refine J_icmp_ge (tgt := 174) (n := 134) dX6_read_131 (by decide) rfl (fun c_131 => ?_) (fun c_131 => ?_)
            · rw [nI_leI (by omega) (by omega)] at c_131
              have ee : wh = e := by omega
              subst ee
              refine J_aload_n (i := 0) (n := 175) dX6_read_174 rfl rfl rfl ?_
              refine J_eta 6 0 ?_
              refine J_iload (i := 6) (n := 177) dX6_read_175 rfl rfl ?_
              refine T_putI (k := 8) (n := 180) wk_X6 dX6_read_177 wf_X6_248 (by decide) (by first | assumption | decide) (kN_i _) rfl (Nat.le_of_ble_eq_true rfl) rfl rfl ?_
              refine J_iload (i := 7) (n := 182) dX6_read_180 rfl rfl ?_
              refine J_iret dX6_read_182 rfl (kN_i _) ?_
              rw [hrk] at hq
              exact hq _ ((hc.now hw0).fault (k := 1) fd (Or.inr rfl)) (by rw [gs_neC (by decide), gs_neC (by decide)])
            · rw [nI_leI (by omega) (by omega)] at c_131
              obtain ⟨m, hfm, hm40, hno⟩ := hok e (by omega)
              obtain ⟨j, z, hj, hz, ej, ez, hpz⟩ := no_of hno hO
              have hnf : nat f = m := by rw [hfm]; exact nat_nI (by omega)
              refine J_aload_n (i := 0) (n := 135) dX6_read_134 rfl rfl rfl ?_
              refine T_getO (k := 0) (n := 138) wk_X6 dX6_read_135 wf_X6_10 (by decide) (by first | assumption | decide) rfl rfl ?_
              refine J_aload (i := 5) (n := 140) dX6_read_138 rfl rfl ?_
              refine T_getO (k := 0) (n := 143) wk_X1 dX6_read_140 wf_X6_239 (by decide) (by first | assumption | decide) rfl rfl ?_
              refine J_iload_n (i := 3) (n := 144) dX6_read_143 rfl rfl rfl ?_
              refine J_iconst (n := 145) dX6_read_144 kI_2 rfl ?_
              refine J_iload (i := 8) (n := 147) dX6_read_145 rfl rfl ?_
              refine J_imul (n := 148) dX6_read_147 rfl ?_
              rw [pk_mul]
              refine J_iadd (n := 149) dX6_read_148 rfl ?_
              rw [hfm, nI_add]
              refine T_ialdO (c := 1) (k := 0) (N := 40) (n := 150) dX6_read_149 (by decide) (by first | assumption | decide) rfl (vp_in_nI (by omega) (by decide)) rfl ?_
              rw [nI_clamp (by omega), hxi _ (gs_neC (by decide)) _ (by omega), ej]
              refine J_iconst (n := 151) dX6_read_150 kI_1 rfl ?_
              refine J_aload (i := 5) (n := 153) dX6_read_151 rfl rfl ?_
              refine T_getO (k := 0) (n := 156) wk_X1 dX6_read_153 wf_X6_239 (by decide) (by first | assumption | decide) rfl rfl ?_
              refine J_iload_n (i := 3) (n := 157) dX6_read_156 rfl rfl rfl ?_
              refine J_iconst (n := 158) dX6_read_157 kI_2 rfl ?_
              refine J_iload (i := 8) (n := 160) dX6_read_158 rfl rfl ?_
              refine J_imul (n := 161) dX6_read_160 rfl ?_
              rw [pk_mul]
              refine J_iadd (n := 162) dX6_read_161 rfl ?_
              rw [nI_add]
              refine J_iconst (n := 163) dX6_read_162 kI_1 rfl ?_
              refine J_iadd (n := 164) dX6_read_163 rfl ?_
              rw [nI_add]
              refine T_ialdO (c := 1) (k := 0) (N := 40) (n := 165) dX6_read_164 (by decide) (by first | assumption | decide) rfl (vp_in_nI (by omega) (by decide)) rfl ?_
              rw [nI_clamp (by omega), hxi _ (gs_neC (by decide)) _ (by omega), ez, ← hfm]
              refine J_callVx (n := 168) wS_X5_putPart (c_W_putPart (Q := fun r h => r = none ∧ ∃ w1, wR w1 (rap S (S.2.2.2.2.2 k) f (e + 1)) ∧ h = hp G (gs_set σ 5 0 w1)) (d + 11) (k := 1) (j := j) (v := z) (by decide) hw0 (by omega) (by decide) (fun w1 h1 => ⟨rfl, w1, (show wR w1 (pw_a (rap S (S.2.2.2.2.2 k) f e) 2 (nat ((S.2.2.2.2.2 k).1 (nat f + 2 * e))) (nat ((S.2.2.2.2.2 k).1 (nat f + 2 * e + 1)))) by rw [hnf, ej, ez, nat_nI (by omega), nat_nI (by omega)]; exact h1), rfl⟩)) dX6_read_165 wm_X6_162 ⟨wM_X5_putPart, wV_X5_putPart⟩ rfl (T_recv (by decide) (by first | assumption | decide)) rfl rfl (Nat.le_of_ble_eq_true rfl) rfl (fun r h1 hq1 => ?_)
              obtain ⟨rfl, w1, hw1, rfl⟩ := hq1
              refine J_inc (i := 8) (n := 171) (lv' := [(0, _), (1, _), (2, _), (3, _), (4, _), (5, _), (6, _), (7, _), (8, _)]) dX6_read_168 rfl (by decide) rfl rfl ?_
              refine J_goto (tgt := 127) dX6_read_171 (by decide) ?_
              exact ih (e + 1) fd wh w1 (by omega) (by omega) hw20 hok hw1 hrk
        have loop : ∀ u i fd wh, n - i < u → i ≤ n → wh ≤ i → fd ≤ 3 → (fd = 0 → wh = i ∧ rk S (S.2.2.2.2.2 k) l f n 0 = rk S (S.2.2.2.2.2 k) l f (n - i) i ∧ ivx (S.2.2.2.2.2 k) f i) → (¬ fd = 0 → rk S (S.2.2.2.2.2 k) l f n 0 = .inl (fd, wh)) → okU S (S.2.2.2.2.2 k) f wh → gx_J G mX6_read (d + 12) 0 0 Q 44 [(0, .ref (gs_a G 6 0 0)), (1, .int (nI k)), (2, .int (nI l)), (3, .int f), (4, .int (nI n)), (5, .ref (gs_a G 1 k 0)), (6, .int (nI fd)), (7, .int (nI wh)), (8, .int (nI i))] [] (hp G σ) := by
          intro u
          induction u with
          | zero => intros; exact absurd (by assumption) (Nat.not_lt_zero _)
          | succ u ih =>
            intro i fd wh hu hi hwi hf3 h0 h1 hok
            refine J_iload (i := 8) (n := 46) dX6_read_44 rfl rfl ?_
            refine J_iload (i := 4) (n := 48) dX6_read_46 rfl rfl ?_
            refine J_icmp_ge (tgt := 124) (n := 51) dX6_read_48 (by decide) rfl (fun c_48 => ?_) (fun c_48 => ?_)
            · refine J_iconst (n := 125) dX6_read_124 kI_0 rfl ?_
              refine J_istore (i := 8) (n := 127) (lv' := [(0, _), (1, _), (2, _), (3, _), (4, _), (5, _), (6, _), (7, _), (8, _)]) dX6_read_125 (by decide) rfl rfl ?_
              have hrk : rk S (S.2.2.2.2.2 k) l f n 0 = .inl (fd, wh) := by
                by_cases c0 : fd = 0
                · obtain ⟨q1, q2, -⟩ := h0 c0
                  try rw [nI_leI (by omega) (by omega)] at c_48
                  have ein : n - i = 0 := by
                    first
                    | omega
                    | (exfalso; apply c_53; rw [c0]; rfl)
                  rw [q2, ein, q1, c0]
                  rfl
                · exact h1 c0
              refine J_eta 5 0 ?_
              exact ap (wh + 1) 0 fd wh _ (by omega) (by omega) (by omega) hok hw hrk
            · rw [nI_leI (by omega) (by omega)] at c_48
              refine J_iload (i := 6) (n := 53) dX6_read_51 rfl rfl ?_
              refine J_if_ne (tgt := 124) (n := 56) dX6_read_53 (by decide) rfl (fun c_53 => ?_) (fun c_53 => ?_)
              · refine J_iconst (n := 125) dX6_read_124 kI_0 rfl ?_
                refine J_istore (i := 8) (n := 127) (lv' := [(0, _), (1, _), (2, _), (3, _), (4, _), (5, _), (6, _), (7, _), (8, _)]) dX6_read_125 (by decide) rfl rfl ?_
                have hrk : rk S (S.2.2.2.2.2 k) l f n 0 = .inl (fd, wh) := by
                  by_cases c0 : fd = 0
                  · obtain ⟨q1, q2, -⟩ := h0 c0
                    try rw [nI_leI (by omega) (by omega)] at c_48
                    have ein : n - i = 0 := by
                      first
                      | omega
                      | (exfalso; apply c_53; rw [c0]; rfl)
                    rw [q2, ein, q1, c0]
                    rfl
                  · exact h1 c0
                refine J_eta 5 0 ?_
                exact ap (wh + 1) 0 fd wh _ (by omega) (by omega) (by omega) hok hw hrk
              · rw [nI_k0 (by omega)] at c_53
                have c53 : fd = 0 := by omega
                obtain ⟨ewi, hrk, hiv⟩ := h0 c53
                subst ewi
                rw [show n - wh = (n - (wh + 1)) + 1 by omega] at hrk
                rw [rk_s] at hrk
                have hpl := pf_le (S.2.2.2.2.2 k) l (f + nI (2 * wh))
                refine J_aload (i := 5) (n := 58) dX6_read_56 rfl rfl ?_
                refine J_iload_n (i := 2) (n := 59) dX6_read_58 rfl rfl rfl ?_
                refine J_iload_n (i := 3) (n := 60) dX6_read_59 rfl rfl rfl ?_
                refine J_iconst (n := 61) dX6_read_60 kI_2 rfl ?_
                refine J_iload (i := 8) (n := 63) dX6_read_61 rfl rfl ?_
                refine J_imul (n := 64) dX6_read_63 rfl ?_
                rw [pk_mul]
                refine J_iadd (n := 65) dX6_read_64 rfl ?_
                refine J_callVr (n := 68) wS_X1_faultAtPair (c_H_faultAtPair (d + 9) hk2 hxl hxb hxz hx40 hl2 (f + nI (2 * wh)) ⟨rfl, rfl⟩) dX6_read_65 wm_X6_245 ⟨wM_X1_faultAtPair, wV_X1_faultAtPair⟩ rfl (T_recv (by decide) (by first | assumption | decide)) rfl rfl (Nat.le_of_ble_eq_true rfl) rfl ?_
                refine J_istore (i := 6) (n := 70) (lv' := [(0, _), (1, _), (2, _), (3, _), (4, _), (5, _), (6, _), (7, _), (8, _)]) dX6_read_68 (by decide) rfl rfl ?_
                refine J_iload (i := 6) (n := 72) dX6_read_70 rfl rfl ?_
                refine J_if_ne (tgt := 118) (n := 75) dX6_read_72 (by decide) rfl (fun c_72 => ?_) (fun c_72 => ?_)
                · refine J_inc (i := 8) (n := 121) (lv' := [(0, _), (1, _), (2, _), (3, _), (4, _), (5, _), (6, _), (7, _), (8, _)]) dX6_read_118 rfl (by decide) rfl rfl ?_
                  refine J_goto (tgt := 44) dX6_read_121 (by decide) ?_
                  first
                  | (refine ih (wh + 1) 0 (wh + 1) (by omega) (by omega) (Nat.le_refl _) (by decide) (fun _ => ⟨rfl, hrk, Or.inr ⟨m, hfm, by omega⟩⟩) (fun q => absurd rfl q) (fun j hj => ?_)
                     rcases Nat.lt_or_ge j wh with q | q
                     · exact hok j q
                     · have eq : j = wh := by omega
                       subst eq
                       exact ⟨m, hfm, by omega, by assumption⟩)
                  | (rw [nI_k0 (by omega)] at c_72
                     rw [if_neg c_72] at hrk
                     exact ih (wh + 1) _ wh (by omega) (by omega) (by omega) hpl (fun q => absurd q c_72) (fun _ => hrk) hok)
                · rw [nI_k0 (by omega)] at c_72
                  rw [c_72]
                  rw [if_pos (by omega)] at hrk
                  obtain ⟨m, hfm, hmz⟩ := pf_at hiv (by omega) hx40
                  have hnf : nat f = m := by rw [hfm]; exact nat_nI (by omega)
                  rw [hnf] at hrk
                  refine J_aload_n (i := 0) (n := 76) dX6_read_75 rfl rfl rfl ?_
                  refine J_aload (i := 5) (n := 78) dX6_read_76 rfl rfl ?_
                  refine T_getO (k := 0) (n := 81) wk_X1 dX6_read_78 wf_X6_239 (by decide) (by first | assumption | decide) rfl rfl ?_
                  refine J_iload_n (i := 3) (n := 82) dX6_read_81 rfl rfl rfl ?_
                  refine J_iconst (n := 83) dX6_read_82 kI_2 rfl ?_
                  refine J_iload (i := 8) (n := 85) dX6_read_83 rfl rfl ?_
                  refine J_imul (n := 86) dX6_read_85 rfl ?_
                  rw [pk_mul]
                  refine J_iadd (n := 87) dX6_read_86 rfl ?_
                  rw [hfm, nI_add]
                  refine T_ialdO (c := 1) (k := 0) (N := 40) (n := 88) dX6_read_87 (by decide) (by first | assumption | decide) rfl (vp_in_nI (by omega) (by decide)) rfl ?_
                  rw [nI_clamp (by omega), hxc _ (by omega)]
                  refine J_iconst (n := 89) dX6_read_88 kI_1 rfl ?_
                  refine J_aload (i := 5) (n := 91) dX6_read_89 rfl rfl ?_
                  refine T_getO (k := 0) (n := 94) wk_X1 dX6_read_91 wf_X6_239 (by decide) (by first | assumption | decide) rfl rfl ?_
                  refine J_iload_n (i := 3) (n := 95) dX6_read_94 rfl rfl rfl ?_
                  refine J_iconst (n := 96) dX6_read_95 kI_2 rfl ?_
                  refine J_iload (i := 8) (n := 98) dX6_read_96 rfl rfl ?_
                  refine J_imul (n := 99) dX6_read_98 rfl ?_
                  rw [pk_mul]
                  refine J_iadd (n := 100) dX6_read_99 rfl ?_
                  rw [nI_add]
                  refine J_iconst (n := 101) dX6_read_100 kI_1 rfl ?_
                  refine J_iadd (n := 102) dX6_read_101 rfl ?_
                  rw [nI_add]
                  refine T_ialdO (c := 1) (k := 0) (N := 40) (n := 103) dX6_read_102 (by decide) (by first | assumption | decide) rfl (vp_in_nI (by omega) (by decide)) rfl ?_
                  rw [nI_clamp (by omega), hxc _ (by omega), ← hfm]
                  refine J_callVr (n := 106) wS_X6_refusalOf (c_G_refusalOf (d + 9) ((S.2.2.2.2.2 k).1 (m + 2 * wh)) (nI 1) ((S.2.2.2.2.2 k).1 (m + 2 * wh + 1)) hS hc ⟨rfl, rfl⟩) dX6_read_103 wm_X6_158 ⟨wM_X6_refusalOf, wV_X6_refusalOf⟩ rfl (T_recv (by decide) (by first | assumption | decide)) rfl rfl (Nat.le_of_ble_eq_true rfl) rfl ?_
                  refine J_if_eq (tgt := 115) (n := 109) dX6_read_106 (by decide) rfl (fun c_106 => ?_) (fun c_106 => ?_)
                  · rw [if_pos (by assumption)] at hrk
                    refine J_inc (i := 7) (n := 118) (lv' := [(0, _), (1, _), (2, _), (3, _), (4, _), (5, _), (6, _), (7, _), (8, _)]) dX6_read_115 rfl (by decide) rfl rfl ?_
                    refine J_inc (i := 8) (n := 121) (lv' := [(0, _), (1, _), (2, _), (3, _), (4, _), (5, _), (6, _), (7, _), (8, _)]) dX6_read_118 rfl (by decide) rfl rfl ?_
                    refine J_goto (tgt := 44) dX6_read_121 (by decide) ?_
                    first
                    | (refine ih (wh + 1) 0 (wh + 1) (by omega) (by omega) (Nat.le_refl _) (by decide) (fun _ => ⟨rfl, hrk, Or.inr ⟨m, hfm, by omega⟩⟩) (fun q => absurd rfl q) (fun j hj => ?_)
                       rcases Nat.lt_or_ge j wh with q | q
                       · exact hok j q
                       · have eq : j = wh := by omega
                         subst eq
                         exact ⟨m, hfm, by omega, by assumption⟩)
                    | (rw [nI_k0 (by omega)] at c_72
                       rw [if_neg c_72] at hrk
                       exact ih (wh + 1) _ wh (by omega) (by omega) (by omega) hpl (fun q => absurd q c_72) (fun _ => hrk) hok)
                  · rw [if_neg (by assumption)] at hrk
                    refine J_bipush (n := 111) dX6_read_109 kB_m20 rfl ?_
                    refine J_iload (i := 8) (n := 113) dX6_read_111 rfl rfl ?_
                    refine J_isub (n := 114) dX6_read_113 rfl ?_
                    refine J_iret dX6_read_114 rfl (kN_i _) ?_
                    rw [hrk] at hq
                    exact hq σ hc rfl
        exact loop (n + 1) 0 0 0 (by omega) (by omega) (Nat.le_refl _) (by decide) (fun _ => ⟨rfl, rfl, Or.inl rfl⟩) (fun q => absurd rfl q) (fun j hj => absurd hj (Nat.not_lt_zero _))
      · refine J_iconst (n := 26) dX6_read_25 kI_m1 rfl ?_
        refine J_iret dX6_read_26 rfl (kN_i _) ?_
        unfold sp_read at hq
        rw [if_neg (by
          first
          | (rw [nb_0] at c_4; rw [c_4, Bool.false_and]; decide)
          | (rw [nb_0] at c_12; rw [c_12, Bool.false_and, Bool.and_false]; decide)
          | (rw [nb_0] at c_22; rw [c_22, Bool.and_false, Bool.and_false]; decide))] at hq
        exact hq σ hc rfl

