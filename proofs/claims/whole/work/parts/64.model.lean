def mB (v w : gs_Ob) (ks : List Nat) : Prop := (∀ k, k ≠ 4 → w.1 k = v.1 k) ∧ ∀ k, k ∉ ks → w.2.1 k = v.2.1 k
theorem mB.rf (v : gs_Ob) (ks : List Nat) : mB v v ks := ⟨fun _ _ => rfl, fun _ _ => rfl⟩
theorem mB.tr {u v w : gs_Ob} {ks : List Nat} (h : mB u v ks) (h2 : mB v w ks) : mB u w ks := ⟨fun k hk => (h2.1 k hk).trans (h.1 k hk), fun k hk => (h2.2 k hk).trans (h.2 k hk)⟩
theorem mB.f {v w : gs_Ob} {ks : List Nat} (h : mB v w ks) {k : Nat} (x : Int32) (hk : k ∈ ks) : mB v (gs_f w k x) ks := ⟨h.1, fun q hq => (gsf_n w x (fun e => hq (by rw [e]; exact hk))).trans (h.2 q hq)⟩
theorem mB.w {v w : gs_Ob} {ks : List Nat} (h : mB v w ks) (f : Nat → Int32) : mB v (gs_w w 4 f) ks := ⟨fun k hk => (gs_wn w f hk).trans (h.1 k hk), h.2⟩
theorem mB.sub {v w : gs_Ob} {ks kt : List Nat} (h : mB v w ks) (hs : ∀ k, k ∈ ks → k ∈ kt) : mB v w kt := ⟨h.1, fun k hk => h.2 k (fun q => hk (hs k q))⟩
theorem mA.b {v w : gs_Ob} {ks kt : List Nat} (h : mA v w ks) (hs : ∀ k, k ∈ ks → k ∈ kt) : mB v w kt := ⟨fun k _ => by rw [h.1], fun k hk => h.2 k (fun q => hk (hs k q))⟩
theorem mB.tp {v w : gs_Ob} {ks : List Nat} {t : Nat → Nat} {L : Nat} (h : mB v w ks) (hk : 11 ∉ ks) (ht : mtp v t L) : mtp w t L := ⟨fun q hq => by rw [h.1 10 (by decide)]; exact ht.1 q hq, by rw [h.2 11 hk]; exact ht.2⟩
theorem mst.same {v w : gs_Ob} {t : Nat → Nat} {L : Nat} {x : pE ⊕ Nat} (h : mst v t L x) (hs : ∀ k, 12 ≤ k → k ≤ 17 → w.2.1 k = v.2.1 k) : mst w t L x := by
  cases x with
  | inl e => exact ⟨by rw [hs 16 (by decide) (by decide)]; exact h.1, by rw [hs 17 (by decide) (by decide)]; exact h.2.1, h.2.2⟩
  | inr i =>
    refine ⟨?_, h.2⟩
    have h1 := h.1
    unfold mtk at h1 ⊢
    rw [hs 16 (by decide) (by decide), hs 17 (by decide) (by decide), hs 13 (by decide) (by decide), hs 12 (by decide) (by decide), hs 14 (by decide) (by decide), hs 15 (by decide) (by decide)]
    exact h1
theorem gfw (v : gs_Ob) (f : Nat → Int32) (k : Nat) (x : Int32) : (gs_f (gs_w v 4 f) k x).1 4 = f := gs_wk v 4 f
theorem tNums_4 {t : Nat → Nat} {L most N m i j : Nat} {r : Nat → Nat} (h : (tk t L i).1 = 4) : tNums t L most N (m + 1) i j r = .inl (1, tb t L i) := if_pos h
theorem tNums_e {t : Nat → Nat} {L most N m i j : Nat} {r : Nat → Nat} (h : ¬ (tk t L i).1 = 4) (h2 : ¬ (tk t L i).1 = 2) : tNums t L most N (m + 1) i j r = .inr (i, j, r) := (if_neg h).trans (if_pos h2)
theorem tNums_5 {t : Nat → Nat} {L most N m i j : Nat} {r : Nat → Nat} (h2 : (tk t L i).1 = 2) (h : N ≤ j) : tNums t L most N (m + 1) i j r = .inl (5, tb t L i) := (if_neg (by omega)).trans ((if_neg (Classical.not_not.mpr h2)).trans (if_pos h))
theorem tNums_3 {t : Nat → Nat} {L most N m i j : Nat} {r : Nat → Nat} (h2 : (tk t L i).1 = 2) (h : ¬ N ≤ j) (h3 : most < (tk t L i).2.2) : tNums t L most N (m + 1) i j r = .inl (3, tb t L i) := (if_neg (by omega)).trans ((if_neg (Classical.not_not.mpr h2)).trans ((if_neg h).trans (if_pos h3)))
theorem tNums_s {t : Nat → Nat} {L most N m i j : Nat} {r : Nat → Nat} (h2 : (tk t L i).1 = 2) (h : ¬ N ≤ j) (h3 : ¬ most < (tk t L i).2.2) : tNums t L most N (m + 1) i j r = tNums t L most N m (tk t L i).2.1 (j + 1) (fun q => if q = j then (tk t L i).2.2 else r q) := (if_neg (by omega)).trans ((if_neg (Classical.not_not.mpr h2)).trans ((if_neg h).trans (if_neg h3)))
set_option maxHeartbeats 4000000 in
set_option maxRecDepth 100000 in
theorem c_M_readFames {G : gx_G} {σ : gs_S} {Q : Option Value → gx_Hp → Prop} (d : Nat) {v : gs_Ob} {i : Nat} {r0 : Nat → Nat} {t : Nat → Nat} {L : Nat} (ht : tOk t L) (htp : mtp v t L) (hx : mst v t L (.inr i)) (h0 : (∀ q, q < 12 → v.1 4 q = nI (r0 q)) ∧ v.2.1 6 = nI (0)) (hq : ∀ v1, mB v v1 [6, 12, 13, 14, 15, 16, 17] → (∀ q, 12 ≤ q → v1.1 4 q = v.1 4 q) → mst v1 t L (bnd (tNums t L 9 12 13 i 0 r0) fun x => .inr x.1) → (∀ x, (tNums t L 9 12 13 i 0 r0) = .inr x → (∀ q, q < 12 → v1.1 4 q = nI (x.2.2 q)) ∧ v1.2.1 6 = nI (x.2.1)) → Q none (hp G (gs_set σ 7 0 v1))) : gx_K G yX7_readFames mX7_readFames (d + 4) 0 0 [.ref (gs_a G 7 0 0)] (hp G (gs_set σ 7 0 v)) Q := by
  have hL := ht.1
  have flt : ∀ v1 e, mB v v1 [6, 12, 13, 14, 15, 16, 17] → (∀ q, 12 ≤ q → v1.1 4 q = v.1 4 q) → mflt v1 e → (tNums t L 9 12 13 i 0 r0) = .inl e → gx_J G mX7_readFames (d + 4) 0 0 Q 0 [(0, .ref (gs_a G 7 0 0))] [] (hp G (gs_set σ 7 0 v1)) := by
    intro v1 e hB1 hk1 hfe htn
    have hne := flt_ne hfe
    refine J_aload_n (i := 0) (n := 1) dX7_readFames_0 rfl rfl rfl ?_
    refine T_get (k := 16) (n := 4) wk_X7 dX7_readFames_1 wf_X7_79 (by decide) (by decide) rfl rfl ?_
    refine J_if_ne (tgt := 70) (n := 7) dX7_readFames_4 (by decide) rfl (fun c_4 => ?_) (fun c_4 => ?_)
    · refine J_vret dX7_readFames_70 rfl ?_
      exact hq v1 hB1 hk1 (by rw [htn]; exact hfe) (fun x hx => by rw [htn] at hx; cases hx)
    · exact absurd c_4 hne
  have loop : ∀ m i1 j r v1, m + j = 13 → j ≤ 12 → mst v1 t L (.inr i1) → ((∀ q, q < 12 → v1.1 4 q = nI (r q)) ∧ v1.2.1 6 = nI (j)) → mB v v1 [6, 12, 13, 14, 15, 16, 17] → (∀ q, 12 ≤ q → v1.1 4 q = v.1 4 q) → (tNums t L 9 12 13 i 0 r0) = tNums t L 9 12 m i1 j r → gx_J G mX7_readFames (d + 4) 0 0 Q 0 [(0, .ref (gs_a G 7 0 0))] [] (hp G (gs_set σ 7 0 v1)) := by
    intro m
    induction m with
    | zero => intros; exfalso; omega
    | succ m ih =>
      intro i1 j r v1 hmj hj hx1 hc1 hB1 hk1 htn
      have hst1 := hx1
      obtain ⟨hx1, hiL⟩ := hx1
      have hkk := tk_k (t := t) hiL
      have h99 := tk_num (t := t) (L := L) (i := i1)
      by_cases hk4 : (tk t L i1).1 = 4
      · exact flt v1 _ hB1 hk1 (mtk_4 hx1 hk4) (by rw [htn, tNums_4 hk4])
      · obtain ⟨h16, h13, h12, h14, h15⟩ := mtk_n hx1 hk4
        by_cases hk2 : (tk t L i1).1 = 2
        · have h15 := h15 hk2
          by_cases hN : 12 ≤ j
          · have htn5 := htn.trans (tNums_5 hk2 hN)
            refine J_aload_n (i := 0) (n := 1) dX7_readFames_0 rfl rfl rfl ?_
            refine T_get (k := 16) (n := 4) wk_X7 dX7_readFames_1 wf_X7_79 (by decide) (by decide) rfl rfl ?_
            rw [h16]
            refine J_if_ne (tgt := 70) (n := 7) dX7_readFames_4 (by decide) rfl (fun c_4 => ?_) (fun c_4 => ?_)
            · exact absurd rfl c_4
            · refine J_aload_n (i := 0) (n := 8) dX7_readFames_7 rfl rfl rfl ?_
              refine T_get (k := 14) (n := 11) wk_X7 dX7_readFames_8 wf_X7_103 (by decide) (by decide) rfl rfl ?_
              rw [h14, hk2]
              refine J_iconst (n := 12) dX7_readFames_11 kI_2 rfl ?_
              refine J_icmp_ne (tgt := 70) (n := 15) dX7_readFames_12 (by decide) rfl (fun c_12 => ?_) (fun c_12 => ?_)
              · exact absurd rfl c_12
              · refine J_aload_n (i := 0) (n := 16) dX7_readFames_15 rfl rfl rfl ?_
                refine J_aload_n (i := 0) (n := 17) dX7_readFames_16 rfl rfl rfl ?_
                refine T_get (k := 6) (n := 20) wk_X7 dX7_readFames_17 wf_X7_54 (by decide) (by decide) rfl rfl ?_
                rw [hc1.2]
                refine J_bipush (n := 22) dX7_readFames_20 kB_12 rfl ?_
                refine J_icmp_ge (tgt := 29) (n := 25) dX7_readFames_22 (by decide) rfl (fun c_22 => ?_) (fun c_22 => ?_)
                · refine J_iconst (n := 30) dX7_readFames_29 kI_0 rfl ?_
                  refine J_iconst (n := 31) dX7_readFames_30 kI_5 rfl ?_
                  refine J_callVv (n := 34) wS_X7_requires (c_M_requires (d + 3) false (nI 5) ⟨rfl, rfl⟩) dX7_readFames_31 wm_X7_117 ⟨wM_X7_requires, wV_X7_requires⟩ rfl (T_recv (by decide) (by decide)) rfl rfl (Nat.le_of_ble_eq_true rfl) rfl ?_
                  rw [rqv_n _ (show v1.2.1 16 = 0 from h16), h13]
                  refine J_aload_n (i := 0) (n := 35) dX7_readFames_34 rfl rfl rfl ?_
                  refine T_get (k := 16) (n := 38) wk_X7 dX7_readFames_35 wf_X7_79 (by decide) (by decide) rfl rfl ?_
                  rw [gsf_n _ _ (by decide), gsf_s]
                  refine J_if_ne (tgt := 0) (n := 41) dX7_readFames_38 (by decide) rfl (fun c_38 => ?_) (fun c_38 => ?_)
                  · exact flt _ (5, tb t L i1) ((hB1.f _ (by decide)).f _ (by decide)) hk1 ⟨by rw [gsf_n _ _ (by decide)]; exact gsf_s _ _ _, gsf_s _ _ _, by show 1 ≤ 5; omega, by show 5 ≤ 5; omega⟩ htn5
                  · exact absurd c_38 (by decide +kernel)
                · exfalso
                  rw [nI_leI (by omega) (by omega)] at c_22
                  omega
          · by_cases hmo : 9 < (tk t L i1).2.2
            · have htn3 := htn.trans (tNums_3 hk2 hN hmo)
              have hy : bnd (Sum.inr i1) (tNum t L 9) = .inl (3, tb t L i1) := tNum_3 hk2 hmo
              refine J_aload_n (i := 0) (n := 1) dX7_readFames_0 rfl rfl rfl ?_
              refine T_get (k := 16) (n := 4) wk_X7 dX7_readFames_1 wf_X7_79 (by decide) (by decide) rfl rfl ?_
              rw [h16]
              refine J_if_ne (tgt := 70) (n := 7) dX7_readFames_4 (by decide) rfl (fun c_4 => ?_) (fun c_4 => ?_)
              · exact absurd rfl c_4
              · refine J_aload_n (i := 0) (n := 8) dX7_readFames_7 rfl rfl rfl ?_
                refine T_get (k := 14) (n := 11) wk_X7 dX7_readFames_8 wf_X7_103 (by decide) (by decide) rfl rfl ?_
                rw [h14, hk2]
                refine J_iconst (n := 12) dX7_readFames_11 kI_2 rfl ?_
                refine J_icmp_ne (tgt := 70) (n := 15) dX7_readFames_12 (by decide) rfl (fun c_12 => ?_) (fun c_12 => ?_)
                · exact absurd rfl c_12
                · refine J_aload_n (i := 0) (n := 16) dX7_readFames_15 rfl rfl rfl ?_
                  refine J_aload_n (i := 0) (n := 17) dX7_readFames_16 rfl rfl rfl ?_
                  refine T_get (k := 6) (n := 20) wk_X7 dX7_readFames_17 wf_X7_54 (by decide) (by decide) rfl rfl ?_
                  rw [hc1.2]
                  refine J_bipush (n := 22) dX7_readFames_20 kB_12 rfl ?_
                  refine J_icmp_ge (tgt := 29) (n := 25) dX7_readFames_22 (by decide) rfl (fun c_22 => ?_) (fun c_22 => ?_)
                  · exfalso
                    rw [nI_leI (by omega) (by omega)] at c_22
                    omega
                  · refine J_iconst (n := 26) dX7_readFames_25 kI_1 rfl ?_
                    refine J_goto (tgt := 30) dX7_readFames_26 (by decide) ?_
                    refine J_iconst (n := 31) dX7_readFames_30 kI_5 rfl ?_
                    refine J_callVv (n := 34) wS_X7_requires (c_M_requires (d + 3) true (nI 5) ⟨rfl, rfl⟩) dX7_readFames_31 wm_X7_117 ⟨wM_X7_requires, wV_X7_requires⟩ rfl (T_recv (by decide) (by decide)) rfl rfl (Nat.le_of_ble_eq_true rfl) rfl ?_
                    rw [rqv_t]
                    refine J_aload_n (i := 0) (n := 35) dX7_readFames_34 rfl rfl rfl ?_
                    refine T_get (k := 16) (n := 38) wk_X7 dX7_readFames_35 wf_X7_79 (by decide) (by decide) rfl rfl ?_
                    rw [h16]
                    refine J_if_ne (tgt := 0) (n := 41) dX7_readFames_38 (by decide) rfl (fun c_38 => ?_) (fun c_38 => ?_)
                    · exact absurd rfl c_38
                    · refine J_aload_n (i := 0) (n := 42) dX7_readFames_41 rfl rfl rfl ?_
                      refine T_get (k := 4) (n := 45) wk_X7 dX7_readFames_42 wf_X7_20 (by decide) (by decide) rfl rfl ?_
                      refine J_aload_n (i := 0) (n := 46) dX7_readFames_45 rfl rfl rfl ?_
                      refine T_get (k := 6) (n := 49) wk_X7 dX7_readFames_46 wf_X7_54 (by decide) (by decide) rfl rfl ?_
                      rw [hc1.2]
                      refine J_aload_n (i := 0) (n := 50) dX7_readFames_49 rfl rfl rfl ?_
                      refine J_iconst (n := 51) dX7_readFames_50 kI_0 rfl ?_
                      refine J_bipush (n := 53) dX7_readFames_51 kB_9 rfl ?_
                      refine J_callVx (n := 56) wS_X7_readNumber (c_M_readNumber (Q := fun r h => r = some (.int (nmv (bnd (Sum.inr i1) (tNum t L 9)))) ∧ ∃ v2, mA v1 v2 [12, 13, 14, 15, 16, 17] ∧ mst v2 t L (fs (bnd (Sum.inr i1) (tNum t L 9))) ∧ h = hp G (gs_set σ 7 0 v2)) d ht (by decide) (hB1.tp (by decide) htp) hst1 (fun v2 h1 h2 => ⟨rfl, v2, h1, h2, rfl⟩)) dX7_readFames_53 wm_X7_128 ⟨wM_X7_readNumber, wV_X7_readNumber⟩ rfl (T_recv (by decide) (by decide)) rfl rfl (Nat.le_of_ble_eq_true rfl) rfl (fun r h1 hq1 => ?_)
                      obtain ⟨rfl, v2, hA2, hx2, rfl⟩ := hq1
                      rw [hy] at hx2
                      refine T_iast (c := 7) (k := 4) (N := 57) (n := 57) dX7_readFames_56 (by decide) (by decide) (fun _ => rfl) (vp_in_nI (by omega) (by decide)) rfl ?_
                      rw [nI_clamp (by omega), hy]
                      refine J_aload_n (i := 0) (n := 58) dX7_readFames_57 rfl rfl rfl ?_
                      refine J_dup (n := 59) dX7_readFames_58 rfl rfl ?_
                      refine T_get (k := 6) (n := 62) wk_X7 dX7_readFames_59 wf_X7_54 (by decide) (by decide) rfl rfl ?_
                      have h6 : v2.2.1 6 = nI j := by rw [hA2.2 6 (by decide)]; exact hc1.2
                      rw [show (gs_w v2 4 (upd (v2.1 4) j (nmv (Sum.inl (3, tb t L i1))))).2.1 6 = nI j from h6]
                      refine J_iconst (n := 63) dX7_readFames_62 kI_1 rfl ?_
                      refine J_iadd (n := 64) dX7_readFames_63 rfl ?_
                      rw [nI_add]
                      refine T_putI (k := 6) (n := 67) wk_X7 dX7_readFames_64 wf_X7_54 (by decide) (by decide) (kN_i _) rfl (Nat.le_of_ble_eq_true rfl) rfl rfl ?_
                      refine J_goto (tgt := 0) dX7_readFames_67 (by decide) ?_
                      exact flt _ (3, tb t L i1) (((hB1.tr (hA2.b (by decide))).w _).f _ (by decide)) (fun q hq0 => by rw [gfw, pk_un (by omega), hA2.1]; exact hk1 q hq0) ⟨hx2.1, hx2.2.1, hx2.2.2⟩ htn3
            · have htns := htn.trans (tNums_s hk2 hN hmo)
              have hy : bnd (Sum.inr i1) (tNum t L 9) = .inr ((tk t L i1).2.1, (tk t L i1).2.2) := tNum_s hk2 hmo
              refine J_aload_n (i := 0) (n := 1) dX7_readFames_0 rfl rfl rfl ?_
              refine T_get (k := 16) (n := 4) wk_X7 dX7_readFames_1 wf_X7_79 (by decide) (by decide) rfl rfl ?_
              rw [h16]
              refine J_if_ne (tgt := 70) (n := 7) dX7_readFames_4 (by decide) rfl (fun c_4 => ?_) (fun c_4 => ?_)
              · exact absurd rfl c_4
              · refine J_aload_n (i := 0) (n := 8) dX7_readFames_7 rfl rfl rfl ?_
                refine T_get (k := 14) (n := 11) wk_X7 dX7_readFames_8 wf_X7_103 (by decide) (by decide) rfl rfl ?_
                rw [h14, hk2]
                refine J_iconst (n := 12) dX7_readFames_11 kI_2 rfl ?_
                refine J_icmp_ne (tgt := 70) (n := 15) dX7_readFames_12 (by decide) rfl (fun c_12 => ?_) (fun c_12 => ?_)
                · exact absurd rfl c_12
                · refine J_aload_n (i := 0) (n := 16) dX7_readFames_15 rfl rfl rfl ?_
                  refine J_aload_n (i := 0) (n := 17) dX7_readFames_16 rfl rfl rfl ?_
                  refine T_get (k := 6) (n := 20) wk_X7 dX7_readFames_17 wf_X7_54 (by decide) (by decide) rfl rfl ?_
                  rw [hc1.2]
                  refine J_bipush (n := 22) dX7_readFames_20 kB_12 rfl ?_
                  refine J_icmp_ge (tgt := 29) (n := 25) dX7_readFames_22 (by decide) rfl (fun c_22 => ?_) (fun c_22 => ?_)
                  · exfalso
                    rw [nI_leI (by omega) (by omega)] at c_22
                    omega
                  · refine J_iconst (n := 26) dX7_readFames_25 kI_1 rfl ?_
                    refine J_goto (tgt := 30) dX7_readFames_26 (by decide) ?_
                    refine J_iconst (n := 31) dX7_readFames_30 kI_5 rfl ?_
                    refine J_callVv (n := 34) wS_X7_requires (c_M_requires (d + 3) true (nI 5) ⟨rfl, rfl⟩) dX7_readFames_31 wm_X7_117 ⟨wM_X7_requires, wV_X7_requires⟩ rfl (T_recv (by decide) (by decide)) rfl rfl (Nat.le_of_ble_eq_true rfl) rfl ?_
                    rw [rqv_t]
                    refine J_aload_n (i := 0) (n := 35) dX7_readFames_34 rfl rfl rfl ?_
                    refine T_get (k := 16) (n := 38) wk_X7 dX7_readFames_35 wf_X7_79 (by decide) (by decide) rfl rfl ?_
                    rw [h16]
                    refine J_if_ne (tgt := 0) (n := 41) dX7_readFames_38 (by decide) rfl (fun c_38 => ?_) (fun c_38 => ?_)
                    · exact absurd rfl c_38
                    · refine J_aload_n (i := 0) (n := 42) dX7_readFames_41 rfl rfl rfl ?_
                      refine T_get (k := 4) (n := 45) wk_X7 dX7_readFames_42 wf_X7_20 (by decide) (by decide) rfl rfl ?_
                      refine J_aload_n (i := 0) (n := 46) dX7_readFames_45 rfl rfl rfl ?_
                      refine T_get (k := 6) (n := 49) wk_X7 dX7_readFames_46 wf_X7_54 (by decide) (by decide) rfl rfl ?_
                      rw [hc1.2]
                      refine J_aload_n (i := 0) (n := 50) dX7_readFames_49 rfl rfl rfl ?_
                      refine J_iconst (n := 51) dX7_readFames_50 kI_0 rfl ?_
                      refine J_bipush (n := 53) dX7_readFames_51 kB_9 rfl ?_
                      refine J_callVx (n := 56) wS_X7_readNumber (c_M_readNumber (Q := fun r h => r = some (.int (nmv (bnd (Sum.inr i1) (tNum t L 9)))) ∧ ∃ v2, mA v1 v2 [12, 13, 14, 15, 16, 17] ∧ mst v2 t L (fs (bnd (Sum.inr i1) (tNum t L 9))) ∧ h = hp G (gs_set σ 7 0 v2)) d ht (by decide) (hB1.tp (by decide) htp) hst1 (fun v2 h1 h2 => ⟨rfl, v2, h1, h2, rfl⟩)) dX7_readFames_53 wm_X7_128 ⟨wM_X7_readNumber, wV_X7_readNumber⟩ rfl (T_recv (by decide) (by decide)) rfl rfl (Nat.le_of_ble_eq_true rfl) rfl (fun r h1 hq1 => ?_)
                      obtain ⟨rfl, v2, hA2, hx2, rfl⟩ := hq1
                      rw [hy] at hx2
                      refine T_iast (c := 7) (k := 4) (N := 57) (n := 57) dX7_readFames_56 (by decide) (by decide) (fun _ => rfl) (vp_in_nI (by omega) (by decide)) rfl ?_
                      rw [nI_clamp (by omega), hy]
                      refine J_aload_n (i := 0) (n := 58) dX7_readFames_57 rfl rfl rfl ?_
                      refine J_dup (n := 59) dX7_readFames_58 rfl rfl ?_
                      refine T_get (k := 6) (n := 62) wk_X7 dX7_readFames_59 wf_X7_54 (by decide) (by decide) rfl rfl ?_
                      have h6 : v2.2.1 6 = nI j := by rw [hA2.2 6 (by decide)]; exact hc1.2
                      rw [show (gs_w v2 4 (upd (v2.1 4) j (nmv (Sum.inr ((tk t L i1).2.1, (tk t L i1).2.2))))).2.1 6 = nI j from h6]
                      refine J_iconst (n := 63) dX7_readFames_62 kI_1 rfl ?_
                      refine J_iadd (n := 64) dX7_readFames_63 rfl ?_
                      rw [nI_add]
                      refine T_putI (k := 6) (n := 67) wk_X7 dX7_readFames_64 wf_X7_54 (by decide) (by decide) (kN_i _) rfl (Nat.le_of_ble_eq_true rfl) rfl rfl ?_
                      refine J_goto (tgt := 0) dX7_readFames_67 (by decide) ?_
                      refine ih (tk t L i1).2.1 (j + 1) _ _ (by omega) (by omega) (hx2.same (fun k k1 k2 => gsf_n _ _ (by omega))) ⟨fun q hq0 => ?_, gsf_s _ _ _⟩ (((hB1.tr (hA2.b (by decide))).w _).f _ (by decide)) (fun q hq0 => by rw [gfw, pk_un (by omega), hA2.1]; exact hk1 q hq0) htns
                      rw [gfw]
                      show _ = nI (if q = j then (tk t L i1).2.2 else r q)
                      by_cases eq : q = j
                      · subst eq
                        rw [if_pos rfl, pk_us]; rfl
                      · rw [if_neg eq, pk_un eq, hA2.1]; exact hc1.1 q hq0
        · have htne := htn.trans (tNums_e hk4 hk2)
          refine J_aload_n (i := 0) (n := 1) dX7_readFames_0 rfl rfl rfl ?_
          refine T_get (k := 16) (n := 4) wk_X7 dX7_readFames_1 wf_X7_79 (by decide) (by decide) rfl rfl ?_
          rw [h16]
          refine J_if_ne (tgt := 70) (n := 7) dX7_readFames_4 (by decide) rfl (fun c_4 => ?_) (fun c_4 => ?_)
          · exact absurd rfl c_4
          · refine J_aload_n (i := 0) (n := 8) dX7_readFames_7 rfl rfl rfl ?_
            refine T_get (k := 14) (n := 11) wk_X7 dX7_readFames_8 wf_X7_103 (by decide) (by decide) rfl rfl ?_
            rw [h14]
            refine J_iconst (n := 12) dX7_readFames_11 kI_2 rfl ?_
            refine J_icmp_ne (tgt := 70) (n := 15) dX7_readFames_12 (by decide) rfl (fun c_12 => ?_) (fun c_12 => ?_)
            · refine J_vret dX7_readFames_70 rfl ?_
              exact hq v1 hB1 hk1 (by rw [htne]; exact hst1) (fun x hx => by rw [htne] at hx; cases hx; exact hc1)
            · exact absurd c_12 (nI_ne hk2 (by omega) (by decide))
  refine gx_K.of' (lv := [(0, _)]) (by decide) rfl (by decide) (Nat.le_of_ble_eq_true rfl) rfl ?_
  exact loop 13 i 0 r0 v rfl (Nat.zero_le _) hx h0 (mB.rf _ _) (fun _ _ => rfl) rfl

set_option maxHeartbeats 4000000 in
set_option maxRecDepth 100000 in
theorem c_M_readRoute {G : gx_G} {σ : gs_S} {Q : Option Value → gx_Hp → Prop} (d : Nat) {v : gs_Ob} {i : Nat} {r0 : Nat → Nat} {t : Nat → Nat} {L : Nat} (ht : tOk t L) (htp : mtp v t L) (hx : mst v t L (.inr i)) (h0 : (∀ q, q < 0 → v.1 4 (30 + q) = nI (r0 q)) ∧ v.1 4 29 = nI (0) ∧ 0 ≤ 6) (hq : ∀ v1, mB v v1 [12, 13, 14, 15, 16, 17] → (∀ q, q < 29 ∨ 36 ≤ q → v1.1 4 q = v.1 4 q) → mst v1 t L (bnd (tNums t L 11 6 7 i 0 r0) fun x => .inr x.1) → (∀ x, (tNums t L 11 6 7 i 0 r0) = .inr x → (∀ q, q < x.2.1 → v1.1 4 (30 + q) = nI (x.2.2 q)) ∧ v1.1 4 29 = nI (x.2.1) ∧ x.2.1 ≤ 6) → Q none (hp G (gs_set σ 7 0 v1))) : gx_K G yX7_readRoute mX7_readRoute (d + 4) 0 0 [.ref (gs_a G 7 0 0)] (hp G (gs_set σ 7 0 v)) Q := by
  have hL := ht.1
  have flt : ∀ v1 e, mB v v1 [12, 13, 14, 15, 16, 17] → (∀ q, q < 29 ∨ 36 ≤ q → v1.1 4 q = v.1 4 q) → mflt v1 e → (tNums t L 11 6 7 i 0 r0) = .inl e → gx_J G mX7_readRoute (d + 4) 0 0 Q 0 [(0, .ref (gs_a G 7 0 0))] [] (hp G (gs_set σ 7 0 v1)) := by
    intro v1 e hB1 hk1 hfe htn
    have hne := flt_ne hfe
    refine J_aload_n (i := 0) (n := 1) dX7_readRoute_0 rfl rfl rfl ?_
    refine T_get (k := 16) (n := 4) wk_X7 dX7_readRoute_1 wf_X7_79 (by decide) (by decide) rfl rfl ?_
    refine J_if_ne (tgt := 80) (n := 7) dX7_readRoute_4 (by decide) rfl (fun c_4 => ?_) (fun c_4 => ?_)
    · refine J_vret dX7_readRoute_80 rfl ?_
      exact hq v1 hB1 hk1 (by rw [htn]; exact hfe) (fun x hx => by rw [htn] at hx; cases hx)
    · exact absurd c_4 hne
  have loop : ∀ m i1 j r v1, m + j = 7 → j ≤ 6 → mst v1 t L (.inr i1) → ((∀ q, q < j → v1.1 4 (30 + q) = nI (r q)) ∧ v1.1 4 29 = nI (j) ∧ j ≤ 6) → mB v v1 [12, 13, 14, 15, 16, 17] → (∀ q, q < 29 ∨ 36 ≤ q → v1.1 4 q = v.1 4 q) → (tNums t L 11 6 7 i 0 r0) = tNums t L 11 6 m i1 j r → gx_J G mX7_readRoute (d + 4) 0 0 Q 0 [(0, .ref (gs_a G 7 0 0))] [] (hp G (gs_set σ 7 0 v1)) := by
    intro m
    induction m with
    | zero => intros; exfalso; omega
    | succ m ih =>
      intro i1 j r v1 hmj hj hx1 hc1 hB1 hk1 htn
      have hst1 := hx1
      obtain ⟨hx1, hiL⟩ := hx1
      have hkk := tk_k (t := t) hiL
      have h99 := tk_num (t := t) (L := L) (i := i1)
      by_cases hk4 : (tk t L i1).1 = 4
      · exact flt v1 _ hB1 hk1 (mtk_4 hx1 hk4) (by rw [htn, tNums_4 hk4])
      · obtain ⟨h16, h13, h12, h14, h15⟩ := mtk_n hx1 hk4
        by_cases hk2 : (tk t L i1).1 = 2
        · have h15 := h15 hk2
          by_cases hN : 6 ≤ j
          · have htn5 := htn.trans (tNums_5 hk2 hN)
            refine J_aload_n (i := 0) (n := 1) dX7_readRoute_0 rfl rfl rfl ?_
            refine T_get (k := 16) (n := 4) wk_X7 dX7_readRoute_1 wf_X7_79 (by decide) (by decide) rfl rfl ?_
            rw [h16]
            refine J_if_ne (tgt := 80) (n := 7) dX7_readRoute_4 (by decide) rfl (fun c_4 => ?_) (fun c_4 => ?_)
            · exact absurd rfl c_4
            · refine J_aload_n (i := 0) (n := 8) dX7_readRoute_7 rfl rfl rfl ?_
              refine T_get (k := 14) (n := 11) wk_X7 dX7_readRoute_8 wf_X7_103 (by decide) (by decide) rfl rfl ?_
              rw [h14, hk2]
              refine J_iconst (n := 12) dX7_readRoute_11 kI_2 rfl ?_
              refine J_icmp_ne (tgt := 80) (n := 15) dX7_readRoute_12 (by decide) rfl (fun c_12 => ?_) (fun c_12 => ?_)
              · exact absurd rfl c_12
              · refine J_aload_n (i := 0) (n := 16) dX7_readRoute_15 rfl rfl rfl ?_
                refine J_aload_n (i := 0) (n := 17) dX7_readRoute_16 rfl rfl rfl ?_
                refine T_get (k := 4) (n := 20) wk_X7 dX7_readRoute_17 wf_X7_20 (by decide) (by decide) rfl rfl ?_
                refine J_bipush (n := 22) dX7_readRoute_20 kB_29 rfl ?_
                refine T_iald (c := 7) (k := 4) (N := 57) (n := 23) dX7_readRoute_22 (by decide) (by decide) rfl (vp_in_nI (by decide) (by decide)) rfl ?_
                rw [nI_clamp (by decide), hc1.2.1]
                refine J_bipush (n := 25) dX7_readRoute_23 kB_6 rfl ?_
                refine J_icmp_ge (tgt := 32) (n := 28) dX7_readRoute_25 (by decide) rfl (fun c_25 => ?_) (fun c_25 => ?_)
                · refine J_iconst (n := 33) dX7_readRoute_32 kI_0 rfl ?_
                  refine J_iconst (n := 34) dX7_readRoute_33 kI_5 rfl ?_
                  refine J_callVv (n := 37) wS_X7_requires (c_M_requires (d + 3) false (nI 5) ⟨rfl, rfl⟩) dX7_readRoute_34 wm_X7_117 ⟨wM_X7_requires, wV_X7_requires⟩ rfl (T_recv (by decide) (by decide)) rfl rfl (Nat.le_of_ble_eq_true rfl) rfl ?_
                  rw [rqv_n _ (show v1.2.1 16 = 0 from h16), h13]
                  refine J_aload_n (i := 0) (n := 38) dX7_readRoute_37 rfl rfl rfl ?_
                  refine T_get (k := 16) (n := 41) wk_X7 dX7_readRoute_38 wf_X7_79 (by decide) (by decide) rfl rfl ?_
                  rw [gsf_n _ _ (by decide), gsf_s]
                  refine J_if_ne (tgt := 0) (n := 44) dX7_readRoute_41 (by decide) rfl (fun c_41 => ?_) (fun c_41 => ?_)
                  · exact flt _ (5, tb t L i1) ((hB1.f _ (by decide)).f _ (by decide)) hk1 ⟨by rw [gsf_n _ _ (by decide)]; exact gsf_s _ _ _, gsf_s _ _ _, by show 1 ≤ 5; omega, by show 5 ≤ 5; omega⟩ htn5
                  · exact absurd c_41 (by decide +kernel)
                · exfalso
                  rw [nI_leI (by omega) (by omega)] at c_25
                  omega
          · by_cases hmo : 11 < (tk t L i1).2.2
            · have htn3 := htn.trans (tNums_3 hk2 hN hmo)
              have hy : bnd (Sum.inr i1) (tNum t L 11) = .inl (3, tb t L i1) := tNum_3 hk2 hmo
              refine J_aload_n (i := 0) (n := 1) dX7_readRoute_0 rfl rfl rfl ?_
              refine T_get (k := 16) (n := 4) wk_X7 dX7_readRoute_1 wf_X7_79 (by decide) (by decide) rfl rfl ?_
              rw [h16]
              refine J_if_ne (tgt := 80) (n := 7) dX7_readRoute_4 (by decide) rfl (fun c_4 => ?_) (fun c_4 => ?_)
              · exact absurd rfl c_4
              · refine J_aload_n (i := 0) (n := 8) dX7_readRoute_7 rfl rfl rfl ?_
                refine T_get (k := 14) (n := 11) wk_X7 dX7_readRoute_8 wf_X7_103 (by decide) (by decide) rfl rfl ?_
                rw [h14, hk2]
                refine J_iconst (n := 12) dX7_readRoute_11 kI_2 rfl ?_
                refine J_icmp_ne (tgt := 80) (n := 15) dX7_readRoute_12 (by decide) rfl (fun c_12 => ?_) (fun c_12 => ?_)
                · exact absurd rfl c_12
                · refine J_aload_n (i := 0) (n := 16) dX7_readRoute_15 rfl rfl rfl ?_
                  refine J_aload_n (i := 0) (n := 17) dX7_readRoute_16 rfl rfl rfl ?_
                  refine T_get (k := 4) (n := 20) wk_X7 dX7_readRoute_17 wf_X7_20 (by decide) (by decide) rfl rfl ?_
                  refine J_bipush (n := 22) dX7_readRoute_20 kB_29 rfl ?_
                  refine T_iald (c := 7) (k := 4) (N := 57) (n := 23) dX7_readRoute_22 (by decide) (by decide) rfl (vp_in_nI (by decide) (by decide)) rfl ?_
                  rw [nI_clamp (by decide), hc1.2.1]
                  refine J_bipush (n := 25) dX7_readRoute_23 kB_6 rfl ?_
                  refine J_icmp_ge (tgt := 32) (n := 28) dX7_readRoute_25 (by decide) rfl (fun c_25 => ?_) (fun c_25 => ?_)
                  · exfalso
                    rw [nI_leI (by omega) (by omega)] at c_25
                    omega
                  · refine J_iconst (n := 29) dX7_readRoute_28 kI_1 rfl ?_
                    refine J_goto (tgt := 33) dX7_readRoute_29 (by decide) ?_
                    refine J_iconst (n := 34) dX7_readRoute_33 kI_5 rfl ?_
                    refine J_callVv (n := 37) wS_X7_requires (c_M_requires (d + 3) true (nI 5) ⟨rfl, rfl⟩) dX7_readRoute_34 wm_X7_117 ⟨wM_X7_requires, wV_X7_requires⟩ rfl (T_recv (by decide) (by decide)) rfl rfl (Nat.le_of_ble_eq_true rfl) rfl ?_
                    rw [rqv_t]
                    refine J_aload_n (i := 0) (n := 38) dX7_readRoute_37 rfl rfl rfl ?_
                    refine T_get (k := 16) (n := 41) wk_X7 dX7_readRoute_38 wf_X7_79 (by decide) (by decide) rfl rfl ?_
                    rw [h16]
                    refine J_if_ne (tgt := 0) (n := 44) dX7_readRoute_41 (by decide) rfl (fun c_41 => ?_) (fun c_41 => ?_)
                    · exact absurd rfl c_41
                    · refine J_aload_n (i := 0) (n := 45) dX7_readRoute_44 rfl rfl rfl ?_
                      refine T_get (k := 4) (n := 48) wk_X7 dX7_readRoute_45 wf_X7_20 (by decide) (by decide) rfl rfl ?_
                      refine J_bipush (n := 50) dX7_readRoute_48 kB_30 rfl ?_
                      refine J_aload_n (i := 0) (n := 51) dX7_readRoute_50 rfl rfl rfl ?_
                      refine T_get (k := 4) (n := 54) wk_X7 dX7_readRoute_51 wf_X7_20 (by decide) (by decide) rfl rfl ?_
                      refine J_bipush (n := 56) dX7_readRoute_54 kB_29 rfl ?_
                      refine T_iald (c := 7) (k := 4) (N := 57) (n := 57) dX7_readRoute_56 (by decide) (by decide) rfl (vp_in_nI (by decide) (by decide)) rfl ?_
                      rw [nI_clamp (by decide), hc1.2.1]
                      refine J_iadd (n := 58) dX7_readRoute_57 rfl ?_
                      rw [nI_add]
                      refine J_aload_n (i := 0) (n := 59) dX7_readRoute_58 rfl rfl rfl ?_
                      refine J_iconst (n := 60) dX7_readRoute_59 kI_0 rfl ?_
                      refine J_bipush (n := 62) dX7_readRoute_60 kB_11 rfl ?_
                      refine J_callVx (n := 65) wS_X7_readNumber (c_M_readNumber (Q := fun r h => r = some (.int (nmv (bnd (Sum.inr i1) (tNum t L 11)))) ∧ ∃ v2, mA v1 v2 [12, 13, 14, 15, 16, 17] ∧ mst v2 t L (fs (bnd (Sum.inr i1) (tNum t L 11))) ∧ h = hp G (gs_set σ 7 0 v2)) d ht (by decide) (hB1.tp (by decide) htp) hst1 (fun v2 h1 h2 => ⟨rfl, v2, h1, h2, rfl⟩)) dX7_readRoute_62 wm_X7_128 ⟨wM_X7_readNumber, wV_X7_readNumber⟩ rfl (T_recv (by decide) (by decide)) rfl rfl (Nat.le_of_ble_eq_true rfl) rfl (fun r h1 hq1 => ?_)
                      obtain ⟨rfl, v2, hA2, hx2, rfl⟩ := hq1
                      rw [hy] at hx2
                      refine T_iast (c := 7) (k := 4) (N := 57) (n := 66) dX7_readRoute_65 (by decide) (by decide) (fun _ => rfl) (vp_in_nI (by omega) (by decide)) rfl ?_
                      rw [nI_clamp (by omega), hy]
                      refine J_aload_n (i := 0) (n := 67) dX7_readRoute_66 rfl rfl rfl ?_
                      refine T_get (k := 4) (n := 70) wk_X7 dX7_readRoute_67 wf_X7_20 (by decide) (by decide) rfl rfl ?_
                      refine J_bipush (n := 72) dX7_readRoute_70 kB_29 rfl ?_
                      refine J_dup2 (n := 73) dX7_readRoute_72 rfl rfl rfl ?_
                      refine T_iald (c := 7) (k := 4) (N := 57) (n := 74) dX7_readRoute_73 (by decide) (by decide) rfl (vp_in_nI (by decide) (by decide)) rfl ?_
                      rw [nI_clamp (by decide), show (gs_w v2 4 (upd (v2.1 4) (30 + j) (nmv (Sum.inl (3, tb t L i1))))).1 4 29 = nI j from by rw [gs_wk, pk_un (by omega), hA2.1]; exact hc1.2.1]
                      refine J_iconst (n := 75) dX7_readRoute_74 kI_1 rfl ?_
                      refine J_iadd (n := 76) dX7_readRoute_75 rfl ?_
                      rw [nI_add]
                      refine T_iast (c := 7) (k := 4) (N := 57) (n := 77) dX7_readRoute_76 (by decide) (by decide) (fun _ => rfl) (vp_in_nI (by decide) (by decide)) rfl ?_
                      rw [nI_clamp (by decide)]
                      refine J_goto (tgt := 0) dX7_readRoute_77 (by decide) ?_
                      have hW : gs_w (gs_w v2 4 (upd (v2.1 4) (30 + j) (nmv (Sum.inl (3, tb t L i1))))) 4 (upd ((gs_w v2 4 (upd (v2.1 4) (30 + j) (nmv (Sum.inl (3, tb t L i1))))).1 4) 29 (nI (j + 1))) = gs_w v2 4 (upd (upd (v2.1 4) (30 + j) (nmv (Sum.inl (3, tb t L i1)))) 29 (nI (j + 1))) := by rw [gs_wk, gs_ww]
                      rw [hW]
                      have hkp : ∀ q, q < 29 ∨ 36 ≤ q → (gs_w v2 4 (upd (upd (v2.1 4) (30 + j) (nmv (Sum.inl (3, tb t L i1)))) 29 (nI (j + 1)))).1 4 q = v.1 4 q := fun q hq0 => by rw [gs_wk, pk_un (by omega), pk_un (by omega), hA2.1]; exact hk1 q hq0
                      exact flt _ (3, tb t L i1) ((hB1.tr (hA2.b (by decide))).w _) hkp ⟨hx2.1, hx2.2.1, hx2.2.2⟩ htn3
            · have htns := htn.trans (tNums_s hk2 hN hmo)
              have hy : bnd (Sum.inr i1) (tNum t L 11) = .inr ((tk t L i1).2.1, (tk t L i1).2.2) := tNum_s hk2 hmo
              refine J_aload_n (i := 0) (n := 1) dX7_readRoute_0 rfl rfl rfl ?_
              refine T_get (k := 16) (n := 4) wk_X7 dX7_readRoute_1 wf_X7_79 (by decide) (by decide) rfl rfl ?_
              rw [h16]
              refine J_if_ne (tgt := 80) (n := 7) dX7_readRoute_4 (by decide) rfl (fun c_4 => ?_) (fun c_4 => ?_)
              · exact absurd rfl c_4
              · refine J_aload_n (i := 0) (n := 8) dX7_readRoute_7 rfl rfl rfl ?_
                refine T_get (k := 14) (n := 11) wk_X7 dX7_readRoute_8 wf_X7_103 (by decide) (by decide) rfl rfl ?_
                rw [h14, hk2]
                refine J_iconst (n := 12) dX7_readRoute_11 kI_2 rfl ?_
                refine J_icmp_ne (tgt := 80) (n := 15) dX7_readRoute_12 (by decide) rfl (fun c_12 => ?_) (fun c_12 => ?_)
                · exact absurd rfl c_12
                · refine J_aload_n (i := 0) (n := 16) dX7_readRoute_15 rfl rfl rfl ?_
                  refine J_aload_n (i := 0) (n := 17) dX7_readRoute_16 rfl rfl rfl ?_
                  refine T_get (k := 4) (n := 20) wk_X7 dX7_readRoute_17 wf_X7_20 (by decide) (by decide) rfl rfl ?_
                  refine J_bipush (n := 22) dX7_readRoute_20 kB_29 rfl ?_
                  refine T_iald (c := 7) (k := 4) (N := 57) (n := 23) dX7_readRoute_22 (by decide) (by decide) rfl (vp_in_nI (by decide) (by decide)) rfl ?_
                  rw [nI_clamp (by decide), hc1.2.1]
                  refine J_bipush (n := 25) dX7_readRoute_23 kB_6 rfl ?_
                  refine J_icmp_ge (tgt := 32) (n := 28) dX7_readRoute_25 (by decide) rfl (fun c_25 => ?_) (fun c_25 => ?_)
                  · exfalso
                    rw [nI_leI (by omega) (by omega)] at c_25
                    omega
                  · refine J_iconst (n := 29) dX7_readRoute_28 kI_1 rfl ?_
                    refine J_goto (tgt := 33) dX7_readRoute_29 (by decide) ?_
                    refine J_iconst (n := 34) dX7_readRoute_33 kI_5 rfl ?_
                    refine J_callVv (n := 37) wS_X7_requires (c_M_requires (d + 3) true (nI 5) ⟨rfl, rfl⟩) dX7_readRoute_34 wm_X7_117 ⟨wM_X7_requires, wV_X7_requires⟩ rfl (T_recv (by decide) (by decide)) rfl rfl (Nat.le_of_ble_eq_true rfl) rfl ?_
                    rw [rqv_t]
                    refine J_aload_n (i := 0) (n := 38) dX7_readRoute_37 rfl rfl rfl ?_
                    refine T_get (k := 16) (n := 41) wk_X7 dX7_readRoute_38 wf_X7_79 (by decide) (by decide) rfl rfl ?_
                    rw [h16]
                    refine J_if_ne (tgt := 0) (n := 44) dX7_readRoute_41 (by decide) rfl (fun c_41 => ?_) (fun c_41 => ?_)
                    · exact absurd rfl c_41
                    · refine J_aload_n (i := 0) (n := 45) dX7_readRoute_44 rfl rfl rfl ?_
                      refine T_get (k := 4) (n := 48) wk_X7 dX7_readRoute_45 wf_X7_20 (by decide) (by decide) rfl rfl ?_
                      refine J_bipush (n := 50) dX7_readRoute_48 kB_30 rfl ?_
                      refine J_aload_n (i := 0) (n := 51) dX7_readRoute_50 rfl rfl rfl ?_
                      refine T_get (k := 4) (n := 54) wk_X7 dX7_readRoute_51 wf_X7_20 (by decide) (by decide) rfl rfl ?_
                      refine J_bipush (n := 56) dX7_readRoute_54 kB_29 rfl ?_
                      refine T_iald (c := 7) (k := 4) (N := 57) (n := 57) dX7_readRoute_56 (by decide) (by decide) rfl (vp_in_nI (by decide) (by decide)) rfl ?_
                      rw [nI_clamp (by decide), hc1.2.1]
                      refine J_iadd (n := 58) dX7_readRoute_57 rfl ?_
                      rw [nI_add]
                      refine J_aload_n (i := 0) (n := 59) dX7_readRoute_58 rfl rfl rfl ?_
                      refine J_iconst (n := 60) dX7_readRoute_59 kI_0 rfl ?_
                      refine J_bipush (n := 62) dX7_readRoute_60 kB_11 rfl ?_
                      refine J_callVx (n := 65) wS_X7_readNumber (c_M_readNumber (Q := fun r h => r = some (.int (nmv (bnd (Sum.inr i1) (tNum t L 11)))) ∧ ∃ v2, mA v1 v2 [12, 13, 14, 15, 16, 17] ∧ mst v2 t L (fs (bnd (Sum.inr i1) (tNum t L 11))) ∧ h = hp G (gs_set σ 7 0 v2)) d ht (by decide) (hB1.tp (by decide) htp) hst1 (fun v2 h1 h2 => ⟨rfl, v2, h1, h2, rfl⟩)) dX7_readRoute_62 wm_X7_128 ⟨wM_X7_readNumber, wV_X7_readNumber⟩ rfl (T_recv (by decide) (by decide)) rfl rfl (Nat.le_of_ble_eq_true rfl) rfl (fun r h1 hq1 => ?_)
                      obtain ⟨rfl, v2, hA2, hx2, rfl⟩ := hq1
                      rw [hy] at hx2
                      refine T_iast (c := 7) (k := 4) (N := 57) (n := 66) dX7_readRoute_65 (by decide) (by decide) (fun _ => rfl) (vp_in_nI (by omega) (by decide)) rfl ?_
                      rw [nI_clamp (by omega), hy]
                      refine J_aload_n (i := 0) (n := 67) dX7_readRoute_66 rfl rfl rfl ?_
                      refine T_get (k := 4) (n := 70) wk_X7 dX7_readRoute_67 wf_X7_20 (by decide) (by decide) rfl rfl ?_
                      refine J_bipush (n := 72) dX7_readRoute_70 kB_29 rfl ?_
                      refine J_dup2 (n := 73) dX7_readRoute_72 rfl rfl rfl ?_
                      refine T_iald (c := 7) (k := 4) (N := 57) (n := 74) dX7_readRoute_73 (by decide) (by decide) rfl (vp_in_nI (by decide) (by decide)) rfl ?_
                      rw [nI_clamp (by decide), show (gs_w v2 4 (upd (v2.1 4) (30 + j) (nmv (Sum.inr ((tk t L i1).2.1, (tk t L i1).2.2))))).1 4 29 = nI j from by rw [gs_wk, pk_un (by omega), hA2.1]; exact hc1.2.1]
                      refine J_iconst (n := 75) dX7_readRoute_74 kI_1 rfl ?_
                      refine J_iadd (n := 76) dX7_readRoute_75 rfl ?_
                      rw [nI_add]
                      refine T_iast (c := 7) (k := 4) (N := 57) (n := 77) dX7_readRoute_76 (by decide) (by decide) (fun _ => rfl) (vp_in_nI (by decide) (by decide)) rfl ?_
                      rw [nI_clamp (by decide)]
                      refine J_goto (tgt := 0) dX7_readRoute_77 (by decide) ?_
                      have hW : gs_w (gs_w v2 4 (upd (v2.1 4) (30 + j) (nmv (Sum.inr ((tk t L i1).2.1, (tk t L i1).2.2))))) 4 (upd ((gs_w v2 4 (upd (v2.1 4) (30 + j) (nmv (Sum.inr ((tk t L i1).2.1, (tk t L i1).2.2))))).1 4) 29 (nI (j + 1))) = gs_w v2 4 (upd (upd (v2.1 4) (30 + j) (nmv (Sum.inr ((tk t L i1).2.1, (tk t L i1).2.2)))) 29 (nI (j + 1))) := by rw [gs_wk, gs_ww]
                      rw [hW]
                      have hkp : ∀ q, q < 29 ∨ 36 ≤ q → (gs_w v2 4 (upd (upd (v2.1 4) (30 + j) (nmv (Sum.inr ((tk t L i1).2.1, (tk t L i1).2.2)))) 29 (nI (j + 1)))).1 4 q = v.1 4 q := fun q hq0 => by rw [gs_wk, pk_un (by omega), pk_un (by omega), hA2.1]; exact hk1 q hq0
                      refine ih (tk t L i1).2.1 (j + 1) _ _ (by omega) (by omega) (hx2.same (fun k k1 k2 => rfl)) ⟨fun q hq0 => ?_, by rw [gs_wk, pk_us], by omega⟩ ((hB1.tr (hA2.b (by decide))).w _) hkp htns
                      rw [gs_wk, pk_un (by omega)]
                      show _ = nI (if q = j then (tk t L i1).2.2 else r q)
                      by_cases eq : q = j
                      · subst eq
                        rw [if_pos rfl, pk_us]; rfl
                      · rw [if_neg eq, pk_un (by omega), hA2.1]; exact hc1.1 q (by omega)
        · have htne := htn.trans (tNums_e hk4 hk2)
          refine J_aload_n (i := 0) (n := 1) dX7_readRoute_0 rfl rfl rfl ?_
          refine T_get (k := 16) (n := 4) wk_X7 dX7_readRoute_1 wf_X7_79 (by decide) (by decide) rfl rfl ?_
          rw [h16]
          refine J_if_ne (tgt := 80) (n := 7) dX7_readRoute_4 (by decide) rfl (fun c_4 => ?_) (fun c_4 => ?_)
          · exact absurd rfl c_4
          · refine J_aload_n (i := 0) (n := 8) dX7_readRoute_7 rfl rfl rfl ?_
            refine T_get (k := 14) (n := 11) wk_X7 dX7_readRoute_8 wf_X7_103 (by decide) (by decide) rfl rfl ?_
            rw [h14]
            refine J_iconst (n := 12) dX7_readRoute_11 kI_2 rfl ?_
            refine J_icmp_ne (tgt := 80) (n := 15) dX7_readRoute_12 (by decide) rfl (fun c_12 => ?_) (fun c_12 => ?_)
            · refine J_vret dX7_readRoute_80 rfl ?_
              exact hq v1 hB1 hk1 (by rw [htne]; exact hst1) (fun x hx => by rw [htne] at hx; cases hx; exact hc1)
            · exact absurd c_12 (nI_ne hk2 (by omega) (by decide))
  refine gx_K.of' (lv := [(0, _)]) (by decide) rfl (by decide) (Nat.le_of_ble_eq_true rfl) rfl ?_
  exact loop 7 i 0 r0 v rfl (Nat.zero_le _) hx h0 (mB.rf _ _) (fun _ _ => rfl) rfl

