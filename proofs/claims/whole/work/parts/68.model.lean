theorem tNum_ok {t : Nat → Nat} {L most i : Nat} {x : Nat × Nat} (h : tNum t L most i = .inr x) (hi : i ≤ L) : i < x.1 ∧ x.1 ≤ L ∧ x.2 ≤ most := by
  unfold tNum at h
  split at h
  · cases h
  · next h4 =>
    split at h
    · cases h
    · next h2 =>
      split at h
      · cases h
      · next h3 =>
        cases h
        exact ⟨tk_lt hi h4 (by omega), (tk_le hi h4).2, by show (tk t L i).2.2 ≤ most; omega⟩
theorem tMark_ok {t : Nat → Nat} {L i n : Nat} (h : tMark t L i = .inr n) (hi : i ≤ L) : i < n ∧ n ≤ L := by
  unfold tMark at h
  split at h
  · cases h
  · next h4 =>
    split at h
    · cases h
    · next h3 =>
      cases h
      exact ⟨tk_lt hi h4 (by omega), (tk_le hi h4).2⟩
theorem tNums_ok {t : Nat → Nat} {L most N : Nat} : ∀ m i j r x, tNums t L most N m i j r = .inr x → i ≤ L → j ≤ N → (i ≤ x.1 ∧ x.1 ≤ L ∧ x.2.1 ≤ N) ∧ (∀ B, (∀ q, q < B → r q ≤ most) → ∀ q, q < B → x.2.2 q ≤ most) ∧ ((∀ q, q < j → r q ≤ most) → ∀ q, q < x.2.1 → x.2.2 q ≤ most) := by
  intro m
  induction m with
  | zero => intro i j r x h hi hj; cases h; exact ⟨⟨Nat.le_refl _, hi, hj⟩, fun B hB => hB, fun hB => hB⟩
  | succ m ih =>
    intro i j r x h hi hj
    by_cases h4 : (tk t L i).1 = 4
    · rw [tNums_4 h4] at h; cases h
    · by_cases h2 : (tk t L i).1 = 2
      · by_cases hN : N ≤ j
        · rw [tNums_5 h2 hN] at h; cases h
        · by_cases h3 : most < (tk t L i).2.2
          · rw [tNums_3 h2 hN h3] at h; cases h
          · rw [tNums_s h2 hN h3] at h
            obtain ⟨⟨a1, a2, a3⟩, b, c⟩ := ih _ _ _ _ h (tk_le hi h4).2 (by omega)
            have hlt := tk_lt hi h4 (by omega)
            refine ⟨⟨by omega, a2, a3⟩, fun B hB => b B (fun q hq => ?_), fun hB => c (fun q hq => ?_)⟩
            · show (if q = j then (tk t L i).2.2 else r q) ≤ most
              split
              · omega
              · exact hB q hq
            · show (if q = j then (tk t L i).2.2 else r q) ≤ most
              split
              · omega
              · exact hB q (by omega)
      · rw [tNums_e h4 h2] at h
        cases h
        exact ⟨⟨Nat.le_refl _, hi, hj⟩, fun B hB => hB, fun hB => hB⟩
theorem tOf_ok {t : Nat → Nat} {L w n : Nat} {D : pw} {x : Nat × pw} (h : tOf t L D w n = .inr x) (hw : w < 7) (hn : n ≤ L) (hD : dOk D) (hg : w < 4 → D.2.2 6 < 4) : dOk x.2 ∧ n ≤ x.1 ∧ x.1 ≤ L ∧ (¬ w = 5 → x.2.2.2 7 = D.2.2 7) := by
  obtain ⟨hO, hp, h9, h10⟩ := hD
  unfold tOf at h
  split at h
  · next e4 =>
    unfold tFam at h
    cases hT : tNums t L 9 12 13 n 0 (D.1 0) with
    | inl e => rw [hT] at h; cases h
    | inr y =>
      rw [hT] at h
      cases h
      obtain ⟨⟨a1, a2, a3⟩, b, -⟩ := tNums_ok _ _ _ _ _ hT hn (Nat.zero_le _)
      refine ⟨⟨⟨fun q hq => b 12 hO.1 q hq, hO.2.1, hO.2.2.1, hO.2.2.2.1, hO.2.2.2.2⟩, hp, h9, h10⟩, a1, a2, fun _ => rfl⟩
  · split at h
    · next e5 =>
      unfold tRou at h
      cases hT : tNums t L 11 6 7 n 0 (D.1 4) with
      | inl e => rw [hT] at h; cases h
      | inr y =>
        rw [hT] at h
        cases h
        obtain ⟨⟨a1, a2, a3⟩, -, c⟩ := tNums_ok _ _ _ _ _ hT hn (Nat.zero_le _)
        refine ⟨⟨⟨hO.1, hO.2.1, fun q hq => c (fun q hq => absurd hq (Nat.not_lt_zero _)) q hq, hO.2.2.2.1, hO.2.2.2.2.1, a3, hO.2.2.2.2.2.2⟩, hp, h9, h10⟩, a1, a2, fun q => absurd e5 q⟩
    · split at h
      · next e6 =>
        unfold tMan at h
        cases hT : tNum t L 11 n with
        | inl e => rw [hT] at h; cases h
        | inr y =>
          rw [hT] at h
          cases h
          obtain ⟨a1, a2, a3⟩ := tNum_ok hT hn
          exact ⟨⟨pw_f8_ok hO a3, hp, h9, h10⟩, by show n ≤ y.1; omega, a2, fun _ => rfl⟩
      · unfold tGlv at h
        cases hT : tNum t L 11 n with
        | inl e => rw [hT] at h; cases h
        | inr y =>
          rw [hT] at h
          have h : bnd (tNum t L 20 y.1) (fun z => Sum.inr (z.1, pw_gl D w y.2 z.2)) = Sum.inr x := h
          obtain ⟨a1, a2, a3⟩ := tNum_ok hT hn
          cases hT2 : tNum t L 20 y.1 with
          | inl e => rw [hT2] at h; cases h
          | inr z =>
            rw [hT2] at h
            cases h
            obtain ⟨b1, b2, b3⟩ := tNum_ok hT2 a2
            have hg := hg (by omega)
            refine ⟨⟨⟨?_, fun q hq => ?_, ?_, fun q hq => hp q, ?_, hO.2.2.2.2.2.1, hO.2.2.2.2.2.2.1, hO.2.2.2.2.2.2.2⟩, hp, h9, h10⟩, by show n ≤ z.1; omega, b2, fun _ => rfl⟩
            · intro q hq; simp only [pw_gl, pw_f, pw_a]; simp; exact hO.1 q hq
            · have hq : q < D.2.2 6 + 1 := hq
              by_cases e : q = D.2.2 6
              · subst e; simp [pw_gl, pw_f, pw_a]; omega
              · have h0 := hO.2.1 q (by omega)
                simp [pw_gl, pw_f, pw_a, e]; exact h0
            · intro q hq; have h0 := hO.2.2.1 q hq; simp [pw_gl, pw_f, pw_a]; exact h0
            · show D.2.2 6 + 1 ≤ 4; omega
theorem tLine_ok {t : Nat → Nat} {L w b n : Nat} {D : pw} {td : Nat → Bool} {x : Nat × pw} (h : tLine t L D td w b n = .inr x) (hn : n ≤ L) (hD : dOk D) (h5 : td 5 = false → D.2.2 7 = 0) : dOk x.2 ∧ n < x.1 ∧ x.1 ≤ L ∧ (tdn td w 5 = false → x.2.2.2 7 = 0) := by
  unfold tLine tHead at h
  by_cases c7 : 7 ≤ w
  · rw [if_pos c7] at h; cases h
  · rw [if_neg c7] at h
    have hh : (w < 4 → D.2.2 6 < 4) ∧ bm t L (tOf t L D w n) = .inr x := by
      by_cases c4 : w < 4
      · rw [if_pos c4] at h
        by_cases cg : 4 ≤ D.2.2 6
        · rw [if_pos cg] at h; cases h
        · rw [if_neg cg] at h; exact ⟨fun _ => by omega, h⟩
      · rw [if_neg c4] at h
        by_cases ct : td w = true
        · rw [if_pos ct] at h; cases h
        · rw [if_neg ct] at h; exact ⟨fun q => absurd q c4, h⟩
    obtain ⟨hg, h⟩ := hh
    unfold bm at h
    cases hT : tOf t L D w n with
    | inl e => rw [hT] at h; cases h
    | inr y =>
      rw [hT] at h
      have h : bnd (tMark t L y.1) (fun n1 => Sum.inr (n1, y.2)) = Sum.inr x := h
      obtain ⟨a1, a2, a3, a4⟩ := tOf_ok hT (by omega) hn hD hg
      cases hM : tMark t L y.1 with
      | inl e => rw [hM] at h; cases h
      | inr n1 =>
        rw [hM] at h
        cases h
        obtain ⟨b1, b2⟩ := tMark_ok hM a3
        refine ⟨a1, by show n < n1; omega, b2, fun q => ?_⟩
        have hw5 : ¬ w = 5 := fun e => by
          have := tdn_s td w
          rw [e] at this q
          rw [this] at q; cases q
        show y.2.2.2 7 = 0
        rw [a4 hw5]
        exact h5 (by rw [tdn_n (fun e => hw5 e.symm)] at q; exact q)
theorem D0_ok : dOk D0 := ⟨⟨fun _ _ => Nat.zero_le _, fun j hj => absurd hj (Nat.not_lt_zero _), fun j hj => absurd hj (Nat.not_lt_zero _), fun _ _ => rfl, Nat.zero_le _, Nat.zero_le _, Nat.zero_le _, Nat.zero_le _⟩, fun _ => rfl, rfl, rfl⟩
theorem tAll_ok {t : Nat → Nat} {L : Nat} : ∀ m l i D td x, tAll t L m l i D td = .inr x → i ≤ L → dOk D → (td 5 = false → D.2.2 7 = 0) → dOk x.2 := by
  intro m
  induction m with
  | zero => intro l i D td x h _ hD _; cases h; exact hD
  | succ m ih =>
    intro l i D td x h hi hD h5
    have h : (if (tk t L i).1 = 4 then .inl (1, tb t L i) else if (tk t L i).1 = 0 then .inr (l, D) else bnd (tLine t L D td (tw t L i) (tb t L i) (tk t L i).2.1) fun x => tAll t L m (l + 1) x.1 x.2 (tdn td (tw t L i)) : pE ⊕ (Nat × pw)) = .inr x := h
    split at h
    · cases h
    · next h4 =>
      split at h
      · cases h; exact hD
      · cases hT : tLine t L D td (tw t L i) (tb t L i) (tk t L i).2.1 with
        | inl e => rw [hT] at h; cases h
        | inr y =>
          rw [hT] at h
          obtain ⟨a1, a2, a3, a4⟩ := tLine_ok hT (tk_le hi h4).2 hD h5
          exact ih _ _ _ _ _ h a3 a1 a4
theorem parse_ok {t : Nat → Nat} {L : Nat} {x : Nat × pw} (h : parse t L = .inr x) : dOk x.2 := tAll_ok _ _ _ _ _ _ h (Nat.zero_le _) D0_ok (fun _ => rfl)
set_option maxHeartbeats 4000000 in
set_option maxRecDepth 100000 in
theorem c_M_firstDraft {G : gx_G} {σ : gs_S} {Q : Option Value → gx_Hp → Prop} {v : gs_Ob} (d : Nat) (hq : ∀ v1 : gs_Ob, (∀ q, q < 57 → v1.1 4 q = nI 0) → (∀ k, k ≠ 4 → v1.1 k = v.1 k) → (∀ k, 5 ≤ k → k ≤ 9 → v1.2.1 k = nI 0) → (∀ k, k < 5 ∨ 9 < k → v1.2.1 k = v.2.1 k) → Q none (hp G (gs_set σ 7 0 v1))) : gx_K G yX7_firstDraft mX7_firstDraft d 0 0 [.ref (gs_a G 7 0 0)] (hp G (gs_set σ 7 0 v)) Q := by
  have loop : ∀ u e v1, 57 - e < u → e ≤ 57 → (∀ q, q < e → v1.1 4 q = nI 0) → (∀ k, k ≠ 4 → v1.1 k = v.1 k) → v1.2.1 = v.2.1 → gx_J G mX7_firstDraft d 0 0 Q 2 [(0, .ref (gs_a G 7 0 0)), (1, .int (nI e))] [] (hp G (gs_set σ 7 0 v1)) := by
    intro u
    induction u with
    | zero => intros; exact absurd (by assumption) (Nat.not_lt_zero _)
    | succ u ih =>
      intro e v1 hu he h1 h2 h3
      refine J_iload_n (i := 1) (n := 3) dX7_firstDraft_2 rfl rfl rfl ?_
      refine J_bipush (n := 5) dX7_firstDraft_3 kB_57 rfl ?_
      refine J_icmp_ge (tgt := 21) (n := 8) dX7_firstDraft_5 (by decide) rfl (fun c_5 => ?_) (fun c_5 => ?_)
      · rw [nI_leI (by omega) (by omega)] at c_5
        have ee : e = 57 := by omega
        subst ee
        refine J_aload_n (i := 0) (n := 22) dX7_firstDraft_21 rfl rfl rfl ?_
        refine J_iconst (n := 23) dX7_firstDraft_22 kI_0 rfl ?_
        refine T_putI (k := 5) (n := 26) wk_X7 dX7_firstDraft_23 wf_X7_50 (by decide) (by decide) (kN_i _) rfl (Nat.le_of_ble_eq_true rfl) rfl rfl ?_
        refine J_aload_n (i := 0) (n := 27) dX7_firstDraft_26 rfl rfl rfl ?_
        refine J_iconst (n := 28) dX7_firstDraft_27 kI_0 rfl ?_
        refine T_putI (k := 6) (n := 31) wk_X7 dX7_firstDraft_28 wf_X7_54 (by decide) (by decide) (kN_i _) rfl (Nat.le_of_ble_eq_true rfl) rfl rfl ?_
        refine J_aload_n (i := 0) (n := 32) dX7_firstDraft_31 rfl rfl rfl ?_
        refine J_iconst (n := 33) dX7_firstDraft_32 kI_0 rfl ?_
        refine T_putI (k := 7) (n := 36) wk_X7 dX7_firstDraft_33 wf_X7_57 (by decide) (by decide) (by first | exact kN_0 | exact kN_1) rfl (Nat.le_of_ble_eq_true rfl) rfl rfl ?_
        refine J_aload_n (i := 0) (n := 37) dX7_firstDraft_36 rfl rfl rfl ?_
        refine J_iconst (n := 38) dX7_firstDraft_37 kI_0 rfl ?_
        refine T_putI (k := 8) (n := 41) wk_X7 dX7_firstDraft_38 wf_X7_61 (by decide) (by decide) (by first | exact kN_0 | exact kN_1) rfl (Nat.le_of_ble_eq_true rfl) rfl rfl ?_
        refine J_aload_n (i := 0) (n := 42) dX7_firstDraft_41 rfl rfl rfl ?_
        refine J_iconst (n := 43) dX7_firstDraft_42 kI_0 rfl ?_
        refine T_putI (k := 9) (n := 46) wk_X7 dX7_firstDraft_43 wf_X7_64 (by decide) (by decide) (by first | exact kN_0 | exact kN_1) rfl (Nat.le_of_ble_eq_true rfl) rfl rfl ?_
        refine J_vret dX7_firstDraft_46 rfl ?_
        refine hq _ h1 h2 (fun k k1 k2 => ?_) (fun k hk => ?_)
        · rcases (show k = 5 ∨ k = 6 ∨ k = 7 ∨ k = 8 ∨ k = 9 by omega) with rfl | rfl | rfl | rfl | rfl <;> simp [gs_f, upd]
        · rw [gsf_n _ _ (by omega), gsf_n _ _ (by omega), gsf_n _ _ (by omega), gsf_n _ _ (by omega), gsf_n _ _ (by omega), h3]
      · rw [nI_leI (by omega) (by omega)] at c_5
        refine J_aload_n (i := 0) (n := 9) dX7_firstDraft_8 rfl rfl rfl ?_
        refine T_get (k := 4) (n := 12) wk_X7 dX7_firstDraft_9 wf_X7_20 (by decide) (by decide) rfl rfl ?_
        refine J_iload_n (i := 1) (n := 13) dX7_firstDraft_12 rfl rfl rfl ?_
        refine J_iconst (n := 14) dX7_firstDraft_13 kI_0 rfl ?_
        refine T_iast (c := 7) (k := 4) (N := 57) (n := 15) dX7_firstDraft_14 (by decide) (by decide) (fun _ => rfl) (vp_in_nI (by omega) (by decide)) rfl ?_
        rw [nI_clamp (by omega)]
        refine J_inc (i := 1) (n := 18) (lv' := [(0, _), (1, _)]) dX7_firstDraft_15 rfl (by decide) rfl rfl ?_
        refine J_goto (tgt := 2) dX7_firstDraft_18 (by decide) ?_
        refine ih (e + 1) _ (by omega) (by omega) (fun q hq0 => ?_) (fun k hk => (gs_wn _ _ hk).trans (h2 k hk)) h3
        rw [gs_wk]
        by_cases eq : q = e
        · subst eq; rw [pk_us]
        · rw [pk_un eq]; exact h1 q (by omega)
  refine gx_K.of' (lv := [(0, _)]) (by decide) rfl (by decide) (Nat.le_of_ble_eq_true rfl) rfl ?_
  refine J_iconst (n := 1) dX7_firstDraft_0 kI_0 rfl ?_
  refine J_istore_n (i := 1) (n := 2) (lv' := [(0, _), (1, _)]) dX7_firstDraft_1 rfl (by decide) rfl rfl ?_
  exact loop 58 0 v (by omega) (by omega) (fun q hq0 => absurd hq0 (Nat.not_lt_zero _)) (fun _ _ => rfl) rfl

set_option maxHeartbeats 4000000 in
set_option maxRecDepth 100000 in
theorem c_M_keepDraft {G : gx_G} {σ : gs_S} {Q : Option Value → gx_Hp → Prop} {v : gs_Ob} (d : Nat) (hq : ∀ v1 : gs_Ob, (∀ q, q < 57 → v1.1 0 q = v.1 4 q) → (∀ k, k ≠ 0 → k ≠ 2 → v1.1 k = v.1 k) → v1.1 2 0 = nI 0 → v1.1 2 1 = nI 0 → v1.2.1 3 = v.2.1 5 → (∀ k, k ≠ 3 → v1.2.1 k = v.2.1 k) → Q none (hp G (gs_set σ 7 0 v1))) : gx_K G yX7_keepDraft mX7_keepDraft d 0 0 [.ref (gs_a G 7 0 0)] (hp G (gs_set σ 7 0 v)) Q := by
  have loop : ∀ u e v1, 57 - e < u → e ≤ 57 → (∀ q, q < e → v1.1 0 q = v.1 4 q) → (∀ k, k ≠ 0 → v1.1 k = v.1 k) → v1.2.1 = v.2.1 → gx_J G mX7_keepDraft d 0 0 Q 2 [(0, .ref (gs_a G 7 0 0)), (1, .int (nI e))] [] (hp G (gs_set σ 7 0 v1)) := by
    intro u
    induction u with
    | zero => intros; exact absurd (by assumption) (Nat.not_lt_zero _)
    | succ u ih =>
      intro e v1 hu he h1 h2 h3
      refine J_iload_n (i := 1) (n := 3) dX7_keepDraft_2 rfl rfl rfl ?_
      refine J_bipush (n := 5) dX7_keepDraft_3 kB_57 rfl ?_
      refine J_icmp_ge (tgt := 26) (n := 8) dX7_keepDraft_5 (by decide) rfl (fun c_5 => ?_) (fun c_5 => ?_)
      · rw [nI_leI (by omega) (by omega)] at c_5
        have ee : e = 57 := by omega
        subst ee
        refine J_aload_n (i := 0) (n := 27) dX7_keepDraft_26 rfl rfl rfl ?_
        refine J_aload_n (i := 0) (n := 28) dX7_keepDraft_27 rfl rfl rfl ?_
        refine T_get (k := 5) (n := 31) wk_X7 dX7_keepDraft_28 wf_X7_50 (by decide) (by decide) rfl rfl ?_
        rw [h3]
        refine T_putI (k := 3) (n := 34) wk_X7 dX7_keepDraft_31 wf_X7_67 (by decide) (by decide) (kN_i _) rfl (Nat.le_of_ble_eq_true rfl) rfl rfl ?_
        refine J_aload_n (i := 0) (n := 35) dX7_keepDraft_34 rfl rfl rfl ?_
        refine T_get (k := 2) (n := 38) wk_X7 dX7_keepDraft_35 wf_X7_16 (by decide) (by decide) rfl rfl ?_
        refine J_iconst (n := 39) dX7_keepDraft_38 kI_0 rfl ?_
        refine J_iconst (n := 40) dX7_keepDraft_39 kI_0 rfl ?_
        refine T_zast (n := 41) dX7_keepDraft_40 (by decide) (vp_in_nI (by decide) (by decide)) kN_0 rfl ?_
        rw [nI_clamp (by decide)]
        refine J_aload_n (i := 0) (n := 42) dX7_keepDraft_41 rfl rfl rfl ?_
        refine T_get (k := 2) (n := 45) wk_X7 dX7_keepDraft_42 wf_X7_16 (by decide) (by decide) rfl rfl ?_
        refine J_iconst (n := 46) dX7_keepDraft_45 kI_1 rfl ?_
        refine J_iconst (n := 47) dX7_keepDraft_46 kI_0 rfl ?_
        refine T_zast (n := 48) dX7_keepDraft_47 (by decide) (vp_in_nI (by decide) (by decide)) kN_0 rfl ?_
        rw [nI_clamp (by decide)]
        refine J_vret dX7_keepDraft_48 rfl ?_
        refine hq _ (fun q hq0 => ?_) (fun k k0 k2 => ?_) ?_ ?_ ?_ (fun k hk => ?_)
        · rw [gs_wn _ _ (by decide), gs_wn _ _ (by decide)]; exact h1 q hq0
        · rw [gs_wn _ _ k2, gs_wn _ _ k2]; exact h2 k k0
        · rw [gs_wk, gs_wk, pk_un (by decide), pk_us]
        · rw [gs_wk, pk_us]
        · exact gsf_s _ _ _
        · show (gs_f v1 3 (v.2.1 5)).2.1 k = _
          rw [gsf_n _ _ hk, h3]
      · rw [nI_leI (by omega) (by omega)] at c_5
        refine J_aload_n (i := 0) (n := 9) dX7_keepDraft_8 rfl rfl rfl ?_
        refine T_get (k := 0) (n := 12) wk_X7 dX7_keepDraft_9 wf_X7_7 (by decide) (by decide) rfl rfl ?_
        refine J_iload_n (i := 1) (n := 13) dX7_keepDraft_12 rfl rfl rfl ?_
        refine J_aload_n (i := 0) (n := 14) dX7_keepDraft_13 rfl rfl rfl ?_
        refine T_get (k := 4) (n := 17) wk_X7 dX7_keepDraft_14 wf_X7_20 (by decide) (by decide) rfl rfl ?_
        refine J_iload_n (i := 1) (n := 18) dX7_keepDraft_17 rfl rfl rfl ?_
        refine T_iald (c := 7) (k := 4) (N := 57) (n := 19) dX7_keepDraft_18 (by decide) (by decide) rfl (vp_in_nI (by omega) (by decide)) rfl ?_
        rw [nI_clamp (by omega)]
        refine T_iast (c := 7) (k := 0) (N := 171) (n := 20) dX7_keepDraft_19 (by decide) (by decide) (fun _ => rfl) (vp_in_nI (by omega) (by decide)) rfl ?_
        rw [nI_clamp (by omega)]
        refine J_inc (i := 1) (n := 23) (lv' := [(0, _), (1, _)]) dX7_keepDraft_20 rfl (by decide) rfl rfl ?_
        refine J_goto (tgt := 2) dX7_keepDraft_23 (by decide) ?_
        refine ih (e + 1) _ (by omega) (by omega) (fun q hq0 => ?_) (fun k hk => (gs_wn _ _ hk).trans (h2 k hk)) h3
        rw [gs_wk, h2 4 (by decide)]
        by_cases eq : q = e
        · subst eq; rw [pk_us]
        · rw [pk_un eq]; exact h1 q (by omega)
  refine gx_K.of' (lv := [(0, _)]) (by decide) rfl (by decide) (Nat.le_of_ble_eq_true rfl) rfl ?_
  refine J_iconst (n := 1) dX7_keepDraft_0 kI_0 rfl ?_
  refine J_istore_n (i := 1) (n := 2) (lv' := [(0, _), (1, _)]) dX7_keepDraft_1 rfl (by decide) rfl rfl ?_
  exact loop 58 0 v (by omega) (by omega) (fun q hq0 => absurd hq0 (Nat.not_lt_zero _)) (fun _ _ => rfl) rfl

theorem sp_text_l {S : pS} {e : pE} (h : parse S.2.2.2.1.1 S.2.2.2.1.2 = .inl e) : sp_text S = (-10 - nI e.2, pS_f (pS_t S (S.2.2.2.1.1, 0)) 0 e.1) := by unfold sp_text; rw [h]
theorem sp_text_r {S : pS} {x : Nat × pw} (h : parse S.2.2.2.1.1 S.2.2.2.1.2 = .inr x) : sp_text S = (nI x.1, pS_f ((x.2, (S.1.2.1, 0)), (fun _ => false), S.2.2.1, (S.2.2.2.1.1, 0), S.2.2.2.2) 0 0) := by unfold sp_text; rw [h]
theorem mR.txl {v w : gs_Ob} {S : pS} {f : Nat} (h : mR v S) (h1 : ∀ k, k ≠ 4 → w.1 k = v.1 k) (h3 : w.2.1 3 = v.2.1 3) (h11 : w.2.1 11 = nI 0) (h16 : w.2.1 16 = nI f) (h28 : w.2.1 28 = v.2.1 28) : mR w (pS_f (pS_t S (S.2.2.2.1.1, 0)) 0 f) := by
  obtain ⟨k1, k2, k3, k4, k5⟩ := h
  refine ⟨⟨by rw [h1 0 (by decide)]; exact k1.1, by rw [h1 0 (by decide)]; exact k1.2.1, by rw [h3]; exact k1.2.2⟩, fun k hk => by rw [h1 2 (by decide), h1 0 (by decide)]; exact k2 k hk, ⟨fun q hq => absurd hq (Nat.not_lt_zero _), h11⟩, ⟨h16, by rw [h28]; exact k4.2⟩, fun k hk => by rw [h1 27 (by decide), h1 25 (by decide), h1 26 (by decide)]; exact k5 k hk⟩
theorem mR.txr {v w : gs_Ob} {S : pS} {D : pw} {l : Nat} (h : mR v S) (h1 : ∀ k, k ≠ 0 → k ≠ 2 → k ≠ 4 → w.1 k = v.1 k) (ha : aR (w.1 0) D) (h38 : w.1 0 38 = nI 0) (h20 : w.1 2 0 = nI 0) (h21 : w.1 2 1 = nI 0) (h3 : w.2.1 3 = nI (D.2.2 6)) (h11 : w.2.1 11 = nI 0) (h16 : w.2.1 16 = nI 0) (h28 : w.2.1 28 = v.2.1 28) : mR w (pS_f ((D, (S.1.2.1, 0)), (fun _ => false), S.2.2.1, (S.2.2.2.1.1, 0), S.2.2.2.2) 0 0) := by
  obtain ⟨k1, k2, k3, k4, k5⟩ := h
  refine ⟨⟨ha, ⟨h38, fun j hj => absurd hj (Nat.not_lt_zero _)⟩, h3⟩, fun k hk => ⟨?_, fun q => by cases q⟩, ⟨fun q hq => absurd hq (Nat.not_lt_zero _), h11⟩, ⟨h16, by rw [h28]; exact k4.2⟩, fun k hk => by rw [h1 27 (by decide) (by decide) (by decide), h1 25 (by decide) (by decide) (by decide), h1 26 (by decide) (by decide) (by decide)]; exact k5 k hk⟩
  rcases (show k = 0 ∨ k = 1 by omega) with rfl | rfl
  · exact h20
  · exact h21
set_option maxHeartbeats 4000000 in
set_option maxRecDepth 100000 in
theorem c_N_text {G : gx_G} {σ : gs_S} {Q : Option Value → gx_Hp → Prop} {S : pS} {v : gs_Ob} (d : Nat) (hS : SOk S) (hm : mR v S) (hq : ∀ v1, mR v1 (sp_text S).2 → Q (some (.int (sp_text S).1)) (hp G (gs_set σ 7 0 v1))) : gx_K G yX7_text mX7_text (d + 12) 0 0 [.ref (gs_a G 7 0 0)] (hp G (gs_set σ 7 0 v)) Q := by
  have ht : tOk S.2.2.2.1.1 S.2.2.2.1.2 := hS.2.2.1
  have htp : mtp v S.2.2.2.1.1 S.2.2.2.1.2 := hm.2.2.1
  have flt : ∀ l v1 e, mB v v1 [5, 6, 7, 8, 9, 12, 13, 14, 15, 16, 17] → mflt v1 e → (parse S.2.2.2.1.1 S.2.2.2.1.2) = .inl e → gx_J G mX7_text (d + 12) 0 0 Q 20 [(0, .ref (gs_a G 7 0 0)), (1, .int (nI l))] [] (hp G (gs_set σ 7 0 v1)) := by
    intro l v1 e hB1 hfe hpe
    have hne := flt_ne hfe
    refine J_aload_n (i := 0) (n := 21) dX7_text_20 rfl rfl rfl ?_
    refine T_get (k := 16) (n := 24) wk_X7 dX7_text_21 wf_X7_79 (by decide) (by decide) rfl rfl ?_
    refine J_if_ne (tgt := 44) (n := 27) dX7_text_24 (by decide) rfl (fun c_24 => ?_) (fun c_24 => ?_)
    · refine J_aload_n (i := 0) (n := 45) dX7_text_44 rfl rfl rfl ?_
      refine J_iconst (n := 46) dX7_text_45 kI_0 rfl ?_
      refine T_putI (k := 11) (n := 49) wk_X7 dX7_text_46 wf_X7_76 (by decide) (by decide) (kN_i _) rfl (Nat.le_of_ble_eq_true rfl) rfl rfl ?_
      refine J_aload_n (i := 0) (n := 50) dX7_text_49 rfl rfl rfl ?_
      refine T_get (k := 16) (n := 53) wk_X7 dX7_text_50 wf_X7_79 (by decide) (by decide) rfl rfl ?_
      rw [gsf_n _ _ (by decide), hfe.1]
      refine J_if_le (tgt := 64) (n := 56) dX7_text_53 (by decide) rfl (fun c_53 => ?_) (fun c_53 => ?_)
      · exfalso
        rw [nI_le0 (by have := hfe.2.2.2; omega)] at c_53
        have := hfe.2.2.1
        omega
      · refine J_bipush (n := 58) dX7_text_56 kB_m10 rfl ?_
        refine J_aload_n (i := 0) (n := 59) dX7_text_58 rfl rfl rfl ?_
        refine T_get (k := 17) (n := 62) wk_X7 dX7_text_59 wf_X7_85 (by decide) (by decide) rfl rfl ?_
        rw [gsf_n _ _ (by decide), hfe.2.1]
        refine J_isub (n := 63) dX7_text_62 rfl ?_
        refine J_iret dX7_text_63 rfl (kN_i _) ?_
        rw [sp_text_l hpe] at hq
        exact hq _ (hm.txl hB1.1 (by rw [gsf_n _ _ (by decide)]; exact hB1.2 3 (by decide)) (gsf_s _ _ _) (by rw [gsf_n _ _ (by decide)]; exact hfe.1) (by rw [gsf_n _ _ (by decide)]; exact hB1.2 28 (by decide)))
    · exact absurd c_24 hne
  have loop : ∀ m l i D td v1, m + l = 161 → l ≤ i → i ≤ S.2.2.2.1.2 → mB v v1 [5, 6, 7, 8, 9, 12, 13, 14, 15, 16, 17] → mst v1 S.2.2.2.1.1 S.2.2.2.1.2 (.inr i) → mDr v1 D → dOk D → mfl v1 td → (td 4 = false → v1.2.1 6 = nI 0) → (td 5 = false → D.2.2 7 = 0) → (parse S.2.2.2.1.1 S.2.2.2.1.2) = tAll S.2.2.2.1.1 S.2.2.2.1.2 m l i D td → gx_J G mX7_text (d + 12) 0 0 Q 20 [(0, .ref (gs_a G 7 0 0)), (1, .int (nI l))] [] (hp G (gs_set σ 7 0 v1)) := by
    intro m
    induction m with
    | zero => intro l i D td v1 hml hli hiL; exfalso; have := ht.1; omega
    | succ m ih =>
      intro l i D td v1 hml hli hiL hB1 hx1 hD1 hdo hf1 h6 h7 hpa
      have hL := ht.1
      have hkk := tk_k (t := S.2.2.2.1.1) hiL
      have hpa : (parse S.2.2.2.1.1 S.2.2.2.1.2) = (if (tk S.2.2.2.1.1 S.2.2.2.1.2 i).1 = 4 then .inl (1, tb S.2.2.2.1.1 S.2.2.2.1.2 i) else if (tk S.2.2.2.1.1 S.2.2.2.1.2 i).1 = 0 then .inr (l, D) else bnd (tLine S.2.2.2.1.1 S.2.2.2.1.2 D td (tw S.2.2.2.1.1 S.2.2.2.1.2 i) (tb S.2.2.2.1.1 S.2.2.2.1.2 i) (tk S.2.2.2.1.1 S.2.2.2.1.2 i).2.1) fun x => tAll S.2.2.2.1.1 S.2.2.2.1.2 m (l + 1) x.1 x.2 (tdn td (tw S.2.2.2.1.1 S.2.2.2.1.2 i)) : pE ⊕ (Nat × pw)) := hpa
      by_cases hk4 : (tk S.2.2.2.1.1 S.2.2.2.1.2 i).1 = 4
      · rw [if_pos hk4] at hpa
        exact flt l v1 _ hB1 (mtk_4 hx1.1 hk4) hpa
      · rw [if_neg hk4] at hpa
        obtain ⟨h16, h13, h12, h14, h15⟩ := mtk_n hx1.1 hk4
        by_cases hk0 : (tk S.2.2.2.1.1 S.2.2.2.1.2 i).1 = 0
        · rw [if_pos hk0] at hpa
          have kdr : gx_K G yX7_keepDraft mX7_keepDraft (d + 11) 0 0 [.ref (gs_a G 7 0 0)] (hp G (gs_set σ 7 0 (gs_f v1 11 (nI 0)))) (fun r h => r = none ∧ ∃ v3, mR v3 (sp_text S).2 ∧ h = hp G (gs_set σ 7 0 v3)) := by
            refine c_M_keepDraft (d + 11) (fun v3 a1 a2 a3 a4 a5 a6 => ⟨rfl, v3, ?_, rfl⟩)
            rw [sp_text_r hpa]
            exact hm.txr (fun k k0 k2 k4 => by rw [a2 k k0 k2]; exact hB1.1 k k4) (hD1.1.ext hdo.1.aB a1) (by rw [a1 38 (by decide)]; exact hD1.2.2.1) a3 a4 (by rw [a5, gsf_n _ _ (by decide)]; exact hD1.2.2.2) (by rw [a6 11 (by decide)]; exact gsf_s _ _ _) (by rw [a6 16 (by decide), gsf_n _ _ (by decide)]; exact h16) (by rw [a6 28 (by decide), gsf_n _ _ (by decide)]; exact hB1.2 28 (by decide)) (l := l)
          refine J_aload_n (i := 0) (n := 21) dX7_text_20 rfl rfl rfl ?_
          refine T_get (k := 16) (n := 24) wk_X7 dX7_text_21 wf_X7_79 (by decide) (by decide) rfl rfl ?_
          rw [h16]
          refine J_if_ne (tgt := 44) (n := 27) dX7_text_24 (by decide) rfl (fun c_24 => ?_) (fun c_24 => ?_)
          · exact absurd rfl c_24
          · refine J_aload_n (i := 0) (n := 28) dX7_text_27 rfl rfl rfl ?_
            refine T_get (k := 14) (n := 31) wk_X7 dX7_text_28 wf_X7_103 (by decide) (by decide) rfl rfl ?_
            rw [h14, hk0]
            refine J_if_eq (tgt := 44) (n := 34) dX7_text_31 (by decide) rfl (fun c_31 => ?_) (fun c_31 => ?_)
            · refine J_aload_n (i := 0) (n := 45) dX7_text_44 rfl rfl rfl ?_
              refine J_iconst (n := 46) dX7_text_45 kI_0 rfl ?_
              refine T_putI (k := 11) (n := 49) wk_X7 dX7_text_46 wf_X7_76 (by decide) (by decide) (kN_i _) rfl (Nat.le_of_ble_eq_true rfl) rfl rfl ?_
              refine J_aload_n (i := 0) (n := 50) dX7_text_49 rfl rfl rfl ?_
              refine T_get (k := 16) (n := 53) wk_X7 dX7_text_50 wf_X7_79 (by decide) (by decide) rfl rfl ?_
              rw [gsf_n _ _ (by decide), h16]
              refine J_if_le (tgt := 64) (n := 56) dX7_text_53 (by decide) rfl (fun c_53 => ?_) (fun c_53 => ?_)
              · refine J_aload_n (i := 0) (n := 65) dX7_text_64 rfl rfl rfl ?_
                refine J_callVx (n := 68) wS_X7_keepDraft (kdr) dX7_text_65 wm_X7_47 ⟨wM_X7_keepDraft, wV_X7_keepDraft⟩ rfl (T_recv (by decide) (by decide)) rfl rfl (Nat.le_of_ble_eq_true rfl) rfl (fun r h1 hq1 => ?_)
                obtain ⟨rfl, v3, hm3, rfl⟩ := hq1
                refine J_iload_n (i := 1) (n := 69) dX7_text_68 rfl rfl rfl ?_
                refine J_iret dX7_text_69 rfl (kN_i _) ?_
                rw [sp_text_r hpa] at hq hm3
                exact hq v3 hm3
              · exact absurd (by decide +kernel) c_53
            · exact absurd rfl c_31
        · rw [if_neg hk0] at hpa
          refine J_aload_n (i := 0) (n := 21) dX7_text_20 rfl rfl rfl ?_
          refine T_get (k := 16) (n := 24) wk_X7 dX7_text_21 wf_X7_79 (by decide) (by decide) rfl rfl ?_
          rw [h16]
          refine J_if_ne (tgt := 44) (n := 27) dX7_text_24 (by decide) rfl (fun c_24 => ?_) (fun c_24 => ?_)
          · exact absurd rfl c_24
          · refine J_aload_n (i := 0) (n := 28) dX7_text_27 rfl rfl rfl ?_
            refine T_get (k := 14) (n := 31) wk_X7 dX7_text_28 wf_X7_103 (by decide) (by decide) rfl rfl ?_
            rw [h14]
            refine J_if_eq (tgt := 44) (n := 34) dX7_text_31 (by decide) rfl (fun c_31 => ?_) (fun c_31 => ?_)
            · exact absurd c_31 (nI_ne hk0 (by omega) (by decide))
            · refine J_aload_n (i := 0) (n := 35) dX7_text_34 rfl rfl rfl ?_
              refine J_callVx (n := 38) wS_X7_readLine (c_M_readLine (Q := fun r h => r = none ∧ ∃ v2, mB v1 v2 [5, 6, 7, 8, 9, 12, 13, 14, 15, 16, 17] ∧ mst v2 S.2.2.2.1.1 S.2.2.2.1.2 (fst2 (tLine S.2.2.2.1.1 S.2.2.2.1.2 D td (tw S.2.2.2.1.1 S.2.2.2.1.2 i) (tb S.2.2.2.1.1 S.2.2.2.1.2 i) (tk S.2.2.2.1.1 S.2.2.2.1.2 i).2.1)) ∧ (∀ x, (tLine S.2.2.2.1.1 S.2.2.2.1.2 D td (tw S.2.2.2.1.1 S.2.2.2.1.2 i) (tb S.2.2.2.1.1 S.2.2.2.1.2 i) (tk S.2.2.2.1.1 S.2.2.2.1.2 i).2.1) = .inr x → mDr v2 x.2 ∧ mfl v2 (tdn td (tw S.2.2.2.1.1 S.2.2.2.1.2 i)) ∧ (tdn td (tw S.2.2.2.1.1 S.2.2.2.1.2 i) 4 = false → v2.2.1 6 = nI 0)) ∧ h = hp G (gs_set σ 7 0 v2)) (d + 5) ht (hB1.tp (by decide) htp) hx1.1 hiL hk4 hD1 hdo.1.2.2.2.2.1 hdo.1.2.2.2.2.2.1 hdo.2.1 hf1 h6 h7 (fun v2 b1 b2 b3 => ⟨rfl, v2, b1, b2, b3, rfl⟩)) dX7_text_35 wm_X7_149 ⟨wM_X7_readLine, wV_X7_readLine⟩ rfl (T_recv (by decide) (by decide)) rfl rfl (Nat.le_of_ble_eq_true rfl) rfl (fun r h1 hq1 => ?_)
              obtain ⟨rfl, v2, hB2, hx2, hd2, rfl⟩ := hq1
              refine J_inc (i := 1) (n := 41) (lv' := [(0, _), (1, _)]) dX7_text_38 rfl (by decide) rfl rfl ?_
              refine J_goto (tgt := 20) dX7_text_41 (by decide) ?_
              cases hT : (tLine S.2.2.2.1.1 S.2.2.2.1.2 D td (tw S.2.2.2.1.1 S.2.2.2.1.2 i) (tb S.2.2.2.1.1 S.2.2.2.1.2 i) (tk S.2.2.2.1.1 S.2.2.2.1.2 i).2.1) with
              | inl e =>
                rw [hT] at hpa hx2
                exact flt (l + 1) v2 e (hB1.tr hB2) hx2 hpa
              | inr x =>
                obtain ⟨a1, a2, a3, a4⟩ := tLine_ok hT (tk_le hiL hk4).2 hdo h7
                have hti := tk_lt hiL hk4 hk0
                obtain ⟨b1, b2, b3⟩ := hd2 x hT
                rw [hT] at hpa hx2
                exact ih (l + 1) x.1 x.2 _ v2 (by omega) (by omega) a3 (hB1.tr hB2) hx2 b1 a1 b2 b3 a4 hpa
  refine gx_K.of' (lv := [(0, _)]) (by decide) rfl (by decide) (Nat.le_of_ble_eq_true rfl) rfl ?_
  refine J_iconst (n := 1) dX7_text_0 kI_0 rfl ?_
  refine J_istore_n (i := 1) (n := 2) (lv' := [(0, _), (1, _)]) dX7_text_1 rfl (by decide) rfl rfl ?_
  refine J_aload_n (i := 0) (n := 3) dX7_text_2 rfl rfl rfl ?_
  refine J_iconst (n := 4) dX7_text_3 kI_0 rfl ?_
  refine T_putI (k := 16) (n := 7) wk_X7 dX7_text_4 wf_X7_79 (by decide) (by decide) (kN_i _) rfl (Nat.le_of_ble_eq_true rfl) rfl rfl ?_
  refine J_aload_n (i := 0) (n := 8) dX7_text_7 rfl rfl rfl ?_
  refine J_iconst (n := 9) dX7_text_8 kI_0 rfl ?_
  refine T_putI (k := 12) (n := 12) wk_X7 dX7_text_9 wf_X7_88 (by decide) (by decide) (kN_i _) rfl (Nat.le_of_ble_eq_true rfl) rfl rfl ?_
  refine J_aload_n (i := 0) (n := 13) dX7_text_12 rfl rfl rfl ?_
  refine J_callVx (n := 16) wS_X7_firstDraft (c_M_firstDraft (Q := fun r h => r = none ∧ ∃ v1, mB v v1 [5, 6, 7, 8, 9, 12, 13, 14, 15, 16, 17] ∧ msx v1 S.2.2.2.1.2 (.inr 0) ∧ mDr v1 D0 ∧ mfl v1 (fun _ => false) ∧ v1.2.1 6 = nI 0 ∧ h = hp G (gs_set σ 7 0 v1)) (d + 11) (fun v1 a1 a2 a3 a4 => ⟨rfl, v1, ⟨fun k hk => a2 k hk, fun k hk => by rw [a4 k (by simp at hk; omega), gsf_n _ _ (by simp at hk; omega), gsf_n _ _ (by simp at hk; omega)]⟩, ⟨by rw [a4 16 (by decide), gsf_n _ _ (by decide)]; exact gsf_s _ _ _, by rw [a4 12 (by decide)]; exact gsf_s _ _ _, Nat.zero_le _⟩, ⟨⟨fun q hq0 => a1 q (by omega), fun g hg => absurd hg (Nat.not_lt_zero _), fun q hq0 => absurd hq0 (Nat.not_lt_zero _), a1 28 (by decide), a1 29 (by decide), a1 36 (by decide), a1 37 (by decide)⟩, fun g hg => a1 _ (by omega), a1 38 (by decide), a3 5 (by decide) (by decide)⟩, ⟨a3 7 (by decide) (by decide), a3 8 (by decide) (by decide), a3 9 (by decide) (by decide)⟩, a3 6 (by decide) (by decide), rfl⟩)) dX7_text_13 wm_X7_44 ⟨wM_X7_firstDraft, wV_X7_firstDraft⟩ rfl (T_recv (by decide) (by decide)) rfl rfl (Nat.le_of_ble_eq_true rfl) rfl (fun r h1 hq1 => ?_)
  obtain ⟨rfl, v1, hB1, hx1, hD1, hf1, e6, rfl⟩ := hq1
  refine J_aload_n (i := 0) (n := 17) dX7_text_16 rfl rfl rfl ?_
  refine J_callVx (n := 20) wS_X7_reads (c_M_reads (Q := fun r h => r = none ∧ ∃ v2, mA v1 v2 [12, 13, 14, 15, 16, 17] ∧ mst v2 S.2.2.2.1.1 S.2.2.2.1.2 (.inr 0) ∧ h = hp G (gs_set σ 7 0 v2)) (d + 9) ht (hB1.tp (by decide) htp) hx1 (fun v2 h1 h2 => ⟨rfl, v2, h1, h2, rfl⟩)) dX7_text_17 wm_X7_125 ⟨wM_X7_reads, wV_X7_reads⟩ rfl (T_recv (by decide) (by decide)) rfl rfl (Nat.le_of_ble_eq_true rfl) rfl (fun r h1 hq1 => ?_)
  obtain ⟨rfl, v2, hA2, hx2, rfl⟩ := hq1
  exact loop 161 0 0 D0 (fun _ => false) v2 rfl (Nat.le_refl _) (Nat.zero_le _) (hB1.tr (hA2.b (by decide))) hx2 (hD1.of (by rw [hA2.1]) (hA2.2 5 (by decide))) D0_ok (hf1.of (hA2.2 7 (by decide)) (hA2.2 8 (by decide)) (hA2.2 9 (by decide))) (fun _ => by rw [hA2.2 6 (by decide)]; exact e6) (fun _ => rfl) rfl
