set_option maxHeartbeats 4000000 in
set_option maxRecDepth 100000 in
theorem j_rl_139F {G : gx_G} {σ : gs_S} {Q : Option Value → gx_Hp → Prop} (d : Nat) {v : gs_Ob} {e : pE} {x1 : Int32} {t : Nat → Nat} {L : Nat} (ht : tOk t L) (htp : mtp v t L) (hfe : mflt v e) (hq : ∀ v1, mA v v1 [12, 13, 14, 15, 16, 17] → mflt v1 e → Q none (hp G (gs_set σ 7 0 v1))) : gx_J G mX7_readLine (d + 6) 0 0 Q 139 [(0, .ref (gs_a G 7 0 0)), (1, .int x1)] [] (hp G (gs_set σ 7 0 v)) := by
  refine J_aload_n (i := 0) (n := 140) dX7_readLine_139 rfl rfl rfl ?_
  refine J_callVx (n := 143) wS_X7_reads (c_M_reads (Q := fun r h => r = none ∧ ∃ v2, mA v v2 [12, 13, 14, 15, 16, 17] ∧ mst v2 t L (.inl e) ∧ h = hp G (gs_set σ 7 0 v2)) (d + 3) ht htp (show msx v L (.inl e) from hfe) (fun v2 h1 h2 => ⟨rfl, v2, h1, h2, rfl⟩)) dX7_readLine_140 wm_X7_125 ⟨wM_X7_reads, wV_X7_reads⟩ rfl (T_recv (by decide) (by decide)) rfl rfl (Nat.le_of_ble_eq_true rfl) rfl (fun r h1 hq1 => ?_)
  obtain ⟨rfl, v2, hA2, hx2, rfl⟩ := hq1
  have hx2 : mflt v2 e := hx2
  refine J_aload_n (i := 0) (n := 144) dX7_readLine_143 rfl rfl rfl ?_
  refine T_get (k := 16) (n := 147) wk_X7 dX7_readLine_144 wf_X7_79 (by decide) (by decide) rfl rfl ?_
  rw [hx2.1]
  refine J_if_le (tgt := 151) (n := 150) dX7_readLine_147 (by decide) rfl (fun c_147 => ?_) (fun c_147 => ?_)
  · exfalso
    rw [nI_le0 (by have := hx2.2.2.2; omega)] at c_147
    have := hx2.2.2.1
    omega
  · refine J_vret dX7_readLine_150 rfl ?_
    exact hq v2 hA2 hx2
set_option maxHeartbeats 4000000 in
set_option maxRecDepth 100000 in
theorem c_M_readLine {G : gx_G} {σ : gs_S} {Q : Option Value → gx_Hp → Prop} (d : Nat) {v : gs_Ob} {D : pw} {td : Nat → Bool} {i : Nat} {t : Nat → Nat} {L : Nat} (ht : tOk t L) (htp : mtp v t L) (hx : mtk v t L i) (hiL : i ≤ L) (hk4 : ¬ (tk t L i).1 = 4) (hD : mDr v D) (hg4 : D.2.2 6 ≤ 4) (hc6 : D.2.2 7 ≤ 6) (hpf : ∀ g, D.2.1 g = false) (hf : mfl v td) (h6 : td 4 = false → v.2.1 6 = nI 0) (h7 : td 5 = false → D.2.2 7 = 0) (hq : ∀ v1, mB v v1 [5, 6, 7, 8, 9, 12, 13, 14, 15, 16, 17] → mst v1 t L (fst2 (tLine t L D td (tw t L i) (tb t L i) (tk t L i).2.1)) → (∀ x, (tLine t L D td (tw t L i) (tb t L i) (tk t L i).2.1) = .inr x → mDr v1 x.2 ∧ mfl v1 (tdn td (tw t L i)) ∧ (tdn td (tw t L i) 4 = false → v1.2.1 6 = nI 0)) → Q none (hp G (gs_set σ 7 0 v1))) : gx_K G yX7_readLine mX7_readLine (d + 6) 0 0 [.ref (gs_a G 7 0 0)] (hp G (gs_set σ 7 0 v)) Q := by
  obtain ⟨h16, h13, h12, h14, h15⟩ := mtk_n hx hk4
  have hkk := tk_k (t := t) hiL
  have hg5 : v.2.1 5 = nI (D.2.2 6) := hD.2.2.2
  have htl := tk_le hiL hk4
  have hw : tw t L i ≤ 7 := by
    unfold tw
    split
    · exact wd_le _ _ _
    · exact Nat.le_refl _
  have k17 : gx_J G mX7_readLine (d + 6) 0 0 Q 17 [(0, .ref (gs_a G 7 0 0))] [.int (wI (tw t L i))] (hp G (gs_set σ 7 0 v)) := by
    generalize hwd : tw t L i = w at hq hw ⊢
    rcases (show w = 7 ∨ (w < 4 ∧ 4 ≤ D.2.2 6) ∨ (4 ≤ w ∧ w < 7 ∧ td w = true) ∨ (w < 7 ∧ (w < 4 → D.2.2 6 < 4) ∧ (4 ≤ w → td w = false)) by
      by_cases c7 : w = 7
      · exact Or.inl c7
      · by_cases c4 : w < 4
        · by_cases cg : 4 ≤ D.2.2 6
          · exact Or.inr (Or.inl ⟨c4, cg⟩)
          · exact Or.inr (Or.inr (Or.inr ⟨by omega, fun _ => by omega, fun q => by omega⟩))
        · cases ct : td w with
          | true => exact Or.inr (Or.inr (Or.inl ⟨by omega, by omega, rfl⟩))
          | false => exact Or.inr (Or.inr (Or.inr ⟨by omega, fun q => by omega, fun _ => rfl⟩))) with cA | ⟨c4, cg⟩ | ⟨c4, c7, ct⟩ | ⟨c7, hgl, hnt⟩
    · have hwI : wI w = -4 := by rw [cA]; rfl
      have hwt : tdv td w = false := by rw [cA]; rfl
      have hT : tLine t L D td w (tb t L i) (tk t L i).2.1 = .inl (2, tb t L i) := by
        unfold tLine tHead
        rw [if_pos (by omega)]
      refine J_istore_n (i := 1) (n := 18) (lv' := [(0, _), (1, _)]) dX7_readLine_17 rfl (by decide) rfl rfl ?_
      refine J_aload_n (i := 0) (n := 19) dX7_readLine_18 rfl rfl rfl ?_
      refine J_iload_n (i := 1) (n := 20) dX7_readLine_19 rfl rfl rfl ?_
      refine J_bipush (n := 22) dX7_readLine_20 kB_m4 rfl ?_
      refine J_icmp_eq (tgt := 29) (n := 25) dX7_readLine_22 (by decide) rfl (fun c_22 => ?_) (fun c_22 => ?_)
      · refine J_iconst (n := 30) dX7_readLine_29 kI_0 rfl ?_
        refine J_iconst (n := 31) dX7_readLine_30 kI_2 rfl ?_
        refine J_callVv (n := 34) wS_X7_requires (c_M_requires (d + 5) false (nI 2) ⟨rfl, rfl⟩) dX7_readLine_31 wm_X7_117 ⟨wM_X7_requires, wV_X7_requires⟩ rfl (T_recv (by decide) (by decide)) rfl rfl (Nat.le_of_ble_eq_true rfl) rfl ?_
        rw [rqv_n _ (show v.2.1 16 = 0 from h16), h13]
        refine J_aload_n (i := 0) (n := 35) dX7_readLine_34 rfl rfl rfl ?_
        refine J_iload_n (i := 1) (n := 36) dX7_readLine_35 rfl rfl rfl ?_
        refine J_iconst (n := 37) dX7_readLine_36 kI_4 rfl ?_
        refine J_icmp_ge (tgt := 48) (n := 40) dX7_readLine_37 (by decide) rfl (fun c_37 => ?_) (fun c_37 => ?_)
        · exfalso
          rw [hwI] at c_37
          exact absurd c_37 (by decide +kernel)
        · refine J_aload_n (i := 0) (n := 41) dX7_readLine_40 rfl rfl rfl ?_
          refine T_get (k := 5) (n := 44) wk_X7 dX7_readLine_41 wf_X7_50 (by decide) (by decide) rfl rfl ?_
          rw [gsf_n _ _ (by decide), gsf_n _ _ (by decide), hg5]
          refine J_iconst (n := 45) dX7_readLine_44 kI_4 rfl ?_
          refine J_icmp_ge (tgt := 52) (n := 48) dX7_readLine_45 (by decide) rfl (fun c_45 => ?_) (fun c_45 => ?_)
          · refine J_iconst (n := 53) dX7_readLine_52 kI_0 rfl ?_
            refine J_iconst (n := 54) dX7_readLine_53 kI_5 rfl ?_
            refine J_callVv (n := 57) wS_X7_requires (c_M_requires (d + 5) false (nI 5) ⟨rfl, rfl⟩) dX7_readLine_54 wm_X7_117 ⟨wM_X7_requires, wV_X7_requires⟩ rfl (T_recv (by decide) (by decide)) rfl rfl (Nat.le_of_ble_eq_true rfl) rfl ?_
            rw [rqv_f false _ (show ¬ (gs_f (gs_f v 16 (nI 2)) 17 (nI (tb t L i))).2.1 16 = 0 by rw [gsf_n _ _ (by decide), gsf_s]; decide +kernel)]
            refine J_aload_n (i := 0) (n := 58) dX7_readLine_57 rfl rfl rfl ?_
            refine J_aload_n (i := 0) (n := 59) dX7_readLine_58 rfl rfl rfl ?_
            refine J_iload_n (i := 1) (n := 60) dX7_readLine_59 rfl rfl rfl ?_
            refine J_callVr (n := 63) wS_X7_wasTold (c_M_wasTold (v := (gs_f (gs_f v 16 (nI 2)) 17 (nI (tb t L i)))) (td := td) (w := w) (d + 5) hw (hf.of (by rw [gsf_n _ _ (by decide), gsf_n _ _ (by decide)]) (by rw [gsf_n _ _ (by decide), gsf_n _ _ (by decide)]) (by rw [gsf_n _ _ (by decide), gsf_n _ _ (by decide)])) ⟨rfl, rfl⟩) dX7_readLine_60 wm_X7_141 ⟨wM_X7_wasTold, wV_X7_wasTold⟩ rfl (T_recv (by decide) (by decide)) rfl rfl (Nat.le_of_ble_eq_true rfl) rfl ?_
            refine J_if_ne (tgt := 70) (n := 66) dX7_readLine_63 (by decide) rfl (fun c_63 => ?_) (fun c_63 => ?_)
            · exact absurd (by rw [hwt]; rfl) c_63
            · refine J_iconst (n := 67) dX7_readLine_66 kI_1 rfl ?_
              refine J_goto (tgt := 71) dX7_readLine_67 (by decide) ?_
              refine J_iconst (n := 72) dX7_readLine_71 kI_4 rfl ?_
              refine J_callVv (n := 75) wS_X7_requires (c_M_requires (d + 5) true (nI 4) ⟨rfl, rfl⟩) dX7_readLine_72 wm_X7_117 ⟨wM_X7_requires, wV_X7_requires⟩ rfl (T_recv (by decide) (by decide)) rfl rfl (Nat.le_of_ble_eq_true rfl) rfl ?_
              rw [rqv_t]
              refine j_rl_75 (td := td) d hw (hf.of (by rw [gsf_n _ _ (by decide), gsf_n _ _ (by decide)]) (by rw [gsf_n _ _ (by decide), gsf_n _ _ (by decide)]) (by rw [gsf_n _ _ (by decide), gsf_n _ _ (by decide)])) (fun v6 hA6 hf6 => ?_)
              refine j_rl_139F d ht (hA6.tp (by decide) ((((mA.rf v [12, 13, 14, 15, 16, 17]).f _ (by decide)).f _ (by decide)).tp (by decide) htp)) (e := (2, tb t L i)) ⟨by rw [hA6.2 16 (by decide)]; exact (by rw [gsf_n _ _ (by decide)]; exact gsf_s _ _ _), by rw [hA6.2 17 (by decide)]; exact gsf_s _ _ _, by show 1 ≤ _; omega, by show _ ≤ 5; omega⟩ (fun v7 hA7 hx7 => ?_)
              refine hq v7 ((((((mA.rf v [12, 13, 14, 15, 16, 17]).f _ (by decide)).f _ (by decide)).b (by decide)).tr (hA6.b (by decide))).tr (hA7.b (by decide))) (by rw [hT]; exact hx7) (fun x hx0 => by rw [hT] at hx0; cases hx0)
          · refine J_iconst (n := 49) dX7_readLine_48 kI_1 rfl ?_
            refine J_goto (tgt := 53) dX7_readLine_49 (by decide) ?_
            refine J_iconst (n := 54) dX7_readLine_53 kI_5 rfl ?_
            refine J_callVv (n := 57) wS_X7_requires (c_M_requires (d + 5) true (nI 5) ⟨rfl, rfl⟩) dX7_readLine_54 wm_X7_117 ⟨wM_X7_requires, wV_X7_requires⟩ rfl (T_recv (by decide) (by decide)) rfl rfl (Nat.le_of_ble_eq_true rfl) rfl ?_
            rw [rqv_f true _ (show ¬ (gs_f (gs_f v 16 (nI 2)) 17 (nI (tb t L i))).2.1 16 = 0 by rw [gsf_n _ _ (by decide), gsf_s]; decide +kernel)]
            refine J_aload_n (i := 0) (n := 58) dX7_readLine_57 rfl rfl rfl ?_
            refine J_aload_n (i := 0) (n := 59) dX7_readLine_58 rfl rfl rfl ?_
            refine J_iload_n (i := 1) (n := 60) dX7_readLine_59 rfl rfl rfl ?_
            refine J_callVr (n := 63) wS_X7_wasTold (c_M_wasTold (v := (gs_f (gs_f v 16 (nI 2)) 17 (nI (tb t L i)))) (td := td) (w := w) (d + 5) hw (hf.of (by rw [gsf_n _ _ (by decide), gsf_n _ _ (by decide)]) (by rw [gsf_n _ _ (by decide), gsf_n _ _ (by decide)]) (by rw [gsf_n _ _ (by decide), gsf_n _ _ (by decide)])) ⟨rfl, rfl⟩) dX7_readLine_60 wm_X7_141 ⟨wM_X7_wasTold, wV_X7_wasTold⟩ rfl (T_recv (by decide) (by decide)) rfl rfl (Nat.le_of_ble_eq_true rfl) rfl ?_
            refine J_if_ne (tgt := 70) (n := 66) dX7_readLine_63 (by decide) rfl (fun c_63 => ?_) (fun c_63 => ?_)
            · exact absurd (by rw [hwt]; rfl) c_63
            · refine J_iconst (n := 67) dX7_readLine_66 kI_1 rfl ?_
              refine J_goto (tgt := 71) dX7_readLine_67 (by decide) ?_
              refine J_iconst (n := 72) dX7_readLine_71 kI_4 rfl ?_
              refine J_callVv (n := 75) wS_X7_requires (c_M_requires (d + 5) true (nI 4) ⟨rfl, rfl⟩) dX7_readLine_72 wm_X7_117 ⟨wM_X7_requires, wV_X7_requires⟩ rfl (T_recv (by decide) (by decide)) rfl rfl (Nat.le_of_ble_eq_true rfl) rfl ?_
              rw [rqv_t]
              refine j_rl_75 (td := td) d hw (hf.of (by rw [gsf_n _ _ (by decide), gsf_n _ _ (by decide)]) (by rw [gsf_n _ _ (by decide), gsf_n _ _ (by decide)]) (by rw [gsf_n _ _ (by decide), gsf_n _ _ (by decide)])) (fun v6 hA6 hf6 => ?_)
              refine j_rl_139F d ht (hA6.tp (by decide) ((((mA.rf v [12, 13, 14, 15, 16, 17]).f _ (by decide)).f _ (by decide)).tp (by decide) htp)) (e := (2, tb t L i)) ⟨by rw [hA6.2 16 (by decide)]; exact (by rw [gsf_n _ _ (by decide)]; exact gsf_s _ _ _), by rw [hA6.2 17 (by decide)]; exact gsf_s _ _ _, by show 1 ≤ _; omega, by show _ ≤ 5; omega⟩ (fun v7 hA7 hx7 => ?_)
              refine hq v7 ((((((mA.rf v [12, 13, 14, 15, 16, 17]).f _ (by decide)).f _ (by decide)).b (by decide)).tr (hA6.b (by decide))).tr (hA7.b (by decide))) (by rw [hT]; exact hx7) (fun x hx0 => by rw [hT] at hx0; cases hx0)
      · exact absurd hwI c_22
    · have hwI : wI w = nI w := if_neg (by omega)
      have hwn : ¬ wI w = -4 := fun q => by have := (wI_7 hw).mp q; omega
      have hwt : tdv td w = false := by unfold tdv; rw [decide_eq_false (by omega), Bool.false_and]
      have hT : tLine t L D td w (tb t L i) (tk t L i).2.1 = .inl (5, tb t L i) := by
        unfold tLine tHead
        rw [if_neg (by omega), if_pos c4, if_pos cg]
      refine J_istore_n (i := 1) (n := 18) (lv' := [(0, _), (1, _)]) dX7_readLine_17 rfl (by decide) rfl rfl ?_
      refine J_aload_n (i := 0) (n := 19) dX7_readLine_18 rfl rfl rfl ?_
      refine J_iload_n (i := 1) (n := 20) dX7_readLine_19 rfl rfl rfl ?_
      refine J_bipush (n := 22) dX7_readLine_20 kB_m4 rfl ?_
      refine J_icmp_eq (tgt := 29) (n := 25) dX7_readLine_22 (by decide) rfl (fun c_22 => ?_) (fun c_22 => ?_)
      · exact absurd c_22 hwn
      · refine J_iconst (n := 26) dX7_readLine_25 kI_1 rfl ?_
        refine J_goto (tgt := 30) dX7_readLine_26 (by decide) ?_
        refine J_iconst (n := 31) dX7_readLine_30 kI_2 rfl ?_
        refine J_callVv (n := 34) wS_X7_requires (c_M_requires (d + 5) true (nI 2) ⟨rfl, rfl⟩) dX7_readLine_31 wm_X7_117 ⟨wM_X7_requires, wV_X7_requires⟩ rfl (T_recv (by decide) (by decide)) rfl rfl (Nat.le_of_ble_eq_true rfl) rfl ?_
        rw [rqv_t]
        refine J_aload_n (i := 0) (n := 35) dX7_readLine_34 rfl rfl rfl ?_
        refine J_iload_n (i := 1) (n := 36) dX7_readLine_35 rfl rfl rfl ?_
        refine J_iconst (n := 37) dX7_readLine_36 kI_4 rfl ?_
        refine J_icmp_ge (tgt := 48) (n := 40) dX7_readLine_37 (by decide) rfl (fun c_37 => ?_) (fun c_37 => ?_)
        · exfalso
          rw [hwI, nI_leI (by omega) (by omega)] at c_37
          omega
        · refine J_aload_n (i := 0) (n := 41) dX7_readLine_40 rfl rfl rfl ?_
          refine T_get (k := 5) (n := 44) wk_X7 dX7_readLine_41 wf_X7_50 (by decide) (by decide) rfl rfl ?_
          rw [hg5]
          refine J_iconst (n := 45) dX7_readLine_44 kI_4 rfl ?_
          refine J_icmp_ge (tgt := 52) (n := 48) dX7_readLine_45 (by decide) rfl (fun c_45 => ?_) (fun c_45 => ?_)
          · refine J_iconst (n := 53) dX7_readLine_52 kI_0 rfl ?_
            refine J_iconst (n := 54) dX7_readLine_53 kI_5 rfl ?_
            refine J_callVv (n := 57) wS_X7_requires (c_M_requires (d + 5) false (nI 5) ⟨rfl, rfl⟩) dX7_readLine_54 wm_X7_117 ⟨wM_X7_requires, wV_X7_requires⟩ rfl (T_recv (by decide) (by decide)) rfl rfl (Nat.le_of_ble_eq_true rfl) rfl ?_
            rw [rqv_n _ (show v.2.1 16 = 0 from h16), h13]
            refine J_aload_n (i := 0) (n := 58) dX7_readLine_57 rfl rfl rfl ?_
            refine J_aload_n (i := 0) (n := 59) dX7_readLine_58 rfl rfl rfl ?_
            refine J_iload_n (i := 1) (n := 60) dX7_readLine_59 rfl rfl rfl ?_
            refine J_callVr (n := 63) wS_X7_wasTold (c_M_wasTold (v := (gs_f (gs_f v 16 (nI 5)) 17 (nI (tb t L i)))) (td := td) (w := w) (d + 5) hw (hf.of (by rw [gsf_n _ _ (by decide), gsf_n _ _ (by decide)]) (by rw [gsf_n _ _ (by decide), gsf_n _ _ (by decide)]) (by rw [gsf_n _ _ (by decide), gsf_n _ _ (by decide)])) ⟨rfl, rfl⟩) dX7_readLine_60 wm_X7_141 ⟨wM_X7_wasTold, wV_X7_wasTold⟩ rfl (T_recv (by decide) (by decide)) rfl rfl (Nat.le_of_ble_eq_true rfl) rfl ?_
            refine J_if_ne (tgt := 70) (n := 66) dX7_readLine_63 (by decide) rfl (fun c_63 => ?_) (fun c_63 => ?_)
            · exact absurd (by rw [hwt]; rfl) c_63
            · refine J_iconst (n := 67) dX7_readLine_66 kI_1 rfl ?_
              refine J_goto (tgt := 71) dX7_readLine_67 (by decide) ?_
              refine J_iconst (n := 72) dX7_readLine_71 kI_4 rfl ?_
              refine J_callVv (n := 75) wS_X7_requires (c_M_requires (d + 5) true (nI 4) ⟨rfl, rfl⟩) dX7_readLine_72 wm_X7_117 ⟨wM_X7_requires, wV_X7_requires⟩ rfl (T_recv (by decide) (by decide)) rfl rfl (Nat.le_of_ble_eq_true rfl) rfl ?_
              rw [rqv_t]
              refine j_rl_75 (td := td) d hw (hf.of (by rw [gsf_n _ _ (by decide), gsf_n _ _ (by decide)]) (by rw [gsf_n _ _ (by decide), gsf_n _ _ (by decide)]) (by rw [gsf_n _ _ (by decide), gsf_n _ _ (by decide)])) (fun v6 hA6 hf6 => ?_)
              refine j_rl_139F d ht (hA6.tp (by decide) ((((mA.rf v [12, 13, 14, 15, 16, 17]).f _ (by decide)).f _ (by decide)).tp (by decide) htp)) (e := (5, tb t L i)) ⟨by rw [hA6.2 16 (by decide)]; exact (by rw [gsf_n _ _ (by decide)]; exact gsf_s _ _ _), by rw [hA6.2 17 (by decide)]; exact gsf_s _ _ _, by show 1 ≤ _; omega, by show _ ≤ 5; omega⟩ (fun v7 hA7 hx7 => ?_)
              refine hq v7 ((((((mA.rf v [12, 13, 14, 15, 16, 17]).f _ (by decide)).f _ (by decide)).b (by decide)).tr (hA6.b (by decide))).tr (hA7.b (by decide))) (by rw [hT]; exact hx7) (fun x hx0 => by rw [hT] at hx0; cases hx0)
          · exfalso
            rw [nI_leI (by omega) (by omega)] at c_45
            omega
    · have hwI : wI w = nI w := if_neg (by omega)
      have hwn : ¬ wI w = -4 := fun q => by have := (wI_7 hw).mp q; omega
      have hwt : tdv td w = true := by unfold tdv; rw [decide_eq_true c4, decide_eq_true c7, ct]; rfl
      have hT : tLine t L D td w (tb t L i) (tk t L i).2.1 = .inl (4, tb t L i) := by
        unfold tLine tHead
        rw [if_neg (by omega), if_neg (by omega), if_pos ct]
      refine J_istore_n (i := 1) (n := 18) (lv' := [(0, _), (1, _)]) dX7_readLine_17 rfl (by decide) rfl rfl ?_
      refine J_aload_n (i := 0) (n := 19) dX7_readLine_18 rfl rfl rfl ?_
      refine J_iload_n (i := 1) (n := 20) dX7_readLine_19 rfl rfl rfl ?_
      refine J_bipush (n := 22) dX7_readLine_20 kB_m4 rfl ?_
      refine J_icmp_eq (tgt := 29) (n := 25) dX7_readLine_22 (by decide) rfl (fun c_22 => ?_) (fun c_22 => ?_)
      · exact absurd c_22 hwn
      · refine J_iconst (n := 26) dX7_readLine_25 kI_1 rfl ?_
        refine J_goto (tgt := 30) dX7_readLine_26 (by decide) ?_
        refine J_iconst (n := 31) dX7_readLine_30 kI_2 rfl ?_
        refine J_callVv (n := 34) wS_X7_requires (c_M_requires (d + 5) true (nI 2) ⟨rfl, rfl⟩) dX7_readLine_31 wm_X7_117 ⟨wM_X7_requires, wV_X7_requires⟩ rfl (T_recv (by decide) (by decide)) rfl rfl (Nat.le_of_ble_eq_true rfl) rfl ?_
        rw [rqv_t]
        refine J_aload_n (i := 0) (n := 35) dX7_readLine_34 rfl rfl rfl ?_
        refine J_iload_n (i := 1) (n := 36) dX7_readLine_35 rfl rfl rfl ?_
        refine J_iconst (n := 37) dX7_readLine_36 kI_4 rfl ?_
        refine J_icmp_ge (tgt := 48) (n := 40) dX7_readLine_37 (by decide) rfl (fun c_37 => ?_) (fun c_37 => ?_)
        · refine J_iconst (n := 49) dX7_readLine_48 kI_1 rfl ?_
          refine J_goto (tgt := 53) dX7_readLine_49 (by decide) ?_
          refine J_iconst (n := 54) dX7_readLine_53 kI_5 rfl ?_
          refine J_callVv (n := 57) wS_X7_requires (c_M_requires (d + 5) true (nI 5) ⟨rfl, rfl⟩) dX7_readLine_54 wm_X7_117 ⟨wM_X7_requires, wV_X7_requires⟩ rfl (T_recv (by decide) (by decide)) rfl rfl (Nat.le_of_ble_eq_true rfl) rfl ?_
          rw [rqv_t]
          refine J_aload_n (i := 0) (n := 58) dX7_readLine_57 rfl rfl rfl ?_
          refine J_aload_n (i := 0) (n := 59) dX7_readLine_58 rfl rfl rfl ?_
          refine J_iload_n (i := 1) (n := 60) dX7_readLine_59 rfl rfl rfl ?_
          refine J_callVr (n := 63) wS_X7_wasTold (c_M_wasTold (v := v) (td := td) (w := w) (d + 5) hw hf ⟨rfl, rfl⟩) dX7_readLine_60 wm_X7_141 ⟨wM_X7_wasTold, wV_X7_wasTold⟩ rfl (T_recv (by decide) (by decide)) rfl rfl (Nat.le_of_ble_eq_true rfl) rfl ?_
          refine J_if_ne (tgt := 70) (n := 66) dX7_readLine_63 (by decide) rfl (fun c_63 => ?_) (fun c_63 => ?_)
          · refine J_iconst (n := 71) dX7_readLine_70 kI_0 rfl ?_
            refine J_iconst (n := 72) dX7_readLine_71 kI_4 rfl ?_
            refine J_callVv (n := 75) wS_X7_requires (c_M_requires (d + 5) false (nI 4) ⟨rfl, rfl⟩) dX7_readLine_72 wm_X7_117 ⟨wM_X7_requires, wV_X7_requires⟩ rfl (T_recv (by decide) (by decide)) rfl rfl (Nat.le_of_ble_eq_true rfl) rfl ?_
            rw [rqv_n _ (show v.2.1 16 = 0 from h16), h13]
            refine j_rl_75 (td := td) d hw (hf.of (by rw [gsf_n _ _ (by decide), gsf_n _ _ (by decide)]) (by rw [gsf_n _ _ (by decide), gsf_n _ _ (by decide)]) (by rw [gsf_n _ _ (by decide), gsf_n _ _ (by decide)])) (fun v6 hA6 hf6 => ?_)
            refine j_rl_139F d ht (hA6.tp (by decide) ((((mA.rf v [12, 13, 14, 15, 16, 17]).f _ (by decide)).f _ (by decide)).tp (by decide) htp)) (e := (4, tb t L i)) ⟨by rw [hA6.2 16 (by decide)]; exact (by rw [gsf_n _ _ (by decide)]; exact gsf_s _ _ _), by rw [hA6.2 17 (by decide)]; exact gsf_s _ _ _, by show 1 ≤ _; omega, by show _ ≤ 5; omega⟩ (fun v7 hA7 hx7 => ?_)
            refine hq v7 ((((((mA.rf v [12, 13, 14, 15, 16, 17]).f _ (by decide)).f _ (by decide)).b (by decide)).tr (hA6.b (by decide))).tr (hA7.b (by decide))) (by rw [hT]; exact hx7) (fun x hx0 => by rw [hT] at hx0; cases hx0)
          · exact absurd c_63 (by rw [hwt]; decide +kernel)
        · exfalso
          rw [hwI, nI_leI (by omega) (by omega)] at c_37
          omega
    · have hwI : wI w = nI w := if_neg (by omega)
      have hwn : ¬ wI w = -4 := fun q => by have := (wI_7 hw).mp q; omega
      have hwt : tdv td w = false := by
        unfold tdv
        by_cases c4 : 4 ≤ w
        · rw [hnt c4, Bool.and_false, Bool.and_false]
        · rw [decide_eq_false c4, Bool.false_and]
      have hT : tLine t L D td w (tb t L i) (tk t L i).2.1 = bm t L (tOf t L D w (tk t L i).2.1) := by
        have hH : tHead D td w (tb t L i) = none := by
          unfold tHead
          rw [if_neg (by omega)]
          by_cases c4 : w < 4
          · rw [if_pos c4, if_neg (by have := hgl c4; omega)]
          · rw [if_neg c4, if_neg (by rw [hnt (by omega)]; decide)]
        unfold tLine
        rw [hH]
        rfl
      refine J_istore_n (i := 1) (n := 18) (lv' := [(0, _), (1, _)]) dX7_readLine_17 rfl (by decide) rfl rfl ?_
      refine J_aload_n (i := 0) (n := 19) dX7_readLine_18 rfl rfl rfl ?_
      refine J_iload_n (i := 1) (n := 20) dX7_readLine_19 rfl rfl rfl ?_
      refine J_bipush (n := 22) dX7_readLine_20 kB_m4 rfl ?_
      refine J_icmp_eq (tgt := 29) (n := 25) dX7_readLine_22 (by decide) rfl (fun c_22 => ?_) (fun c_22 => ?_)
      · exact absurd c_22 hwn
      · refine J_iconst (n := 26) dX7_readLine_25 kI_1 rfl ?_
        refine J_goto (tgt := 30) dX7_readLine_26 (by decide) ?_
        refine J_iconst (n := 31) dX7_readLine_30 kI_2 rfl ?_
        refine J_callVv (n := 34) wS_X7_requires (c_M_requires (d + 5) true (nI 2) ⟨rfl, rfl⟩) dX7_readLine_31 wm_X7_117 ⟨wM_X7_requires, wV_X7_requires⟩ rfl (T_recv (by decide) (by decide)) rfl rfl (Nat.le_of_ble_eq_true rfl) rfl ?_
        rw [rqv_t]
        refine J_aload_n (i := 0) (n := 35) dX7_readLine_34 rfl rfl rfl ?_
        refine J_iload_n (i := 1) (n := 36) dX7_readLine_35 rfl rfl rfl ?_
        refine J_iconst (n := 37) dX7_readLine_36 kI_4 rfl ?_
        refine J_icmp_ge (tgt := 48) (n := 40) dX7_readLine_37 (by decide) rfl (fun c_37 => ?_) (fun c_37 => ?_)
        · refine J_iconst (n := 49) dX7_readLine_48 kI_1 rfl ?_
          refine J_goto (tgt := 53) dX7_readLine_49 (by decide) ?_
          refine J_iconst (n := 54) dX7_readLine_53 kI_5 rfl ?_
          refine J_callVv (n := 57) wS_X7_requires (c_M_requires (d + 5) true (nI 5) ⟨rfl, rfl⟩) dX7_readLine_54 wm_X7_117 ⟨wM_X7_requires, wV_X7_requires⟩ rfl (T_recv (by decide) (by decide)) rfl rfl (Nat.le_of_ble_eq_true rfl) rfl ?_
          rw [rqv_t]
          refine J_aload_n (i := 0) (n := 58) dX7_readLine_57 rfl rfl rfl ?_
          refine J_aload_n (i := 0) (n := 59) dX7_readLine_58 rfl rfl rfl ?_
          refine J_iload_n (i := 1) (n := 60) dX7_readLine_59 rfl rfl rfl ?_
          refine J_callVr (n := 63) wS_X7_wasTold (c_M_wasTold (v := v) (td := td) (w := w) (d + 5) hw hf ⟨rfl, rfl⟩) dX7_readLine_60 wm_X7_141 ⟨wM_X7_wasTold, wV_X7_wasTold⟩ rfl (T_recv (by decide) (by decide)) rfl rfl (Nat.le_of_ble_eq_true rfl) rfl ?_
          refine J_if_ne (tgt := 70) (n := 66) dX7_readLine_63 (by decide) rfl (fun c_63 => ?_) (fun c_63 => ?_)
          · exact absurd (by rw [hwt]; rfl) c_63
          · refine J_iconst (n := 67) dX7_readLine_66 kI_1 rfl ?_
            refine J_goto (tgt := 71) dX7_readLine_67 (by decide) ?_
            refine J_iconst (n := 72) dX7_readLine_71 kI_4 rfl ?_
            refine J_callVv (n := 75) wS_X7_requires (c_M_requires (d + 5) true (nI 4) ⟨rfl, rfl⟩) dX7_readLine_72 wm_X7_117 ⟨wM_X7_requires, wV_X7_requires⟩ rfl (T_recv (by decide) (by decide)) rfl rfl (Nat.le_of_ble_eq_true rfl) rfl ?_
            rw [rqv_t]
            refine j_rl_75 (td := td) d hw hf (fun v6 hA6 hf6 => ?_)
            rw [hwI]
            refine j_rl_139 d ht (by omega) (hA6.tp (by decide) htp) (n := (tk t L i).2.1) ⟨by rw [hA6.2 16 (by decide)]; exact h16, by rw [hA6.2 12 (by decide)]; exact h12, (tk_le hiL hk4).2⟩ (hD.of (by rw [hA6.1]) (hA6.2 5 (by decide))) hg4 hc6 hpf (fun q => by rw [hA6.2 6 (by decide)]; exact h6 (by rw [← q]; exact hnt (by omega))) (fun q => h7 (by rw [← q]; exact hnt (by omega))) (fun q => hgl q) (fun v7 b1 b2 b3 b4 => ?_)
            refine hq v7 ((hA6.b (by decide)).tr (b1.sub (by decide))) (by rw [hT]; exact b2) (fun x hx0 => ⟨b3 x (by rw [hT] at hx0; exact hx0), hf6.of (b1.2 7 (by decide)) (b1.2 8 (by decide)) (b1.2 9 (by decide)), fun q => ?_⟩)
            have hw4 : ¬ w = 4 := fun e4 => by
              have := tdn_s td w
              rw [e4] at this
              rw [e4, this] at q
              cases q
            rw [b4 hw4, hA6.2 6 (by decide)]
            exact h6 (by rw [tdn_n (fun e => hw4 e.symm)] at q; exact q)
        · refine J_aload_n (i := 0) (n := 41) dX7_readLine_40 rfl rfl rfl ?_
          refine T_get (k := 5) (n := 44) wk_X7 dX7_readLine_41 wf_X7_50 (by decide) (by decide) rfl rfl ?_
          rw [hg5]
          refine J_iconst (n := 45) dX7_readLine_44 kI_4 rfl ?_
          refine J_icmp_ge (tgt := 52) (n := 48) dX7_readLine_45 (by decide) rfl (fun c_45 => ?_) (fun c_45 => ?_)
          · exfalso
            rw [hwI, nI_leI (by omega) (by omega)] at c_37
            rw [nI_leI (by omega) (by omega)] at c_45
            omega
          · refine J_iconst (n := 49) dX7_readLine_48 kI_1 rfl ?_
            refine J_goto (tgt := 53) dX7_readLine_49 (by decide) ?_
            refine J_iconst (n := 54) dX7_readLine_53 kI_5 rfl ?_
            refine J_callVv (n := 57) wS_X7_requires (c_M_requires (d + 5) true (nI 5) ⟨rfl, rfl⟩) dX7_readLine_54 wm_X7_117 ⟨wM_X7_requires, wV_X7_requires⟩ rfl (T_recv (by decide) (by decide)) rfl rfl (Nat.le_of_ble_eq_true rfl) rfl ?_
            rw [rqv_t]
            refine J_aload_n (i := 0) (n := 58) dX7_readLine_57 rfl rfl rfl ?_
            refine J_aload_n (i := 0) (n := 59) dX7_readLine_58 rfl rfl rfl ?_
            refine J_iload_n (i := 1) (n := 60) dX7_readLine_59 rfl rfl rfl ?_
            refine J_callVr (n := 63) wS_X7_wasTold (c_M_wasTold (v := v) (td := td) (w := w) (d + 5) hw hf ⟨rfl, rfl⟩) dX7_readLine_60 wm_X7_141 ⟨wM_X7_wasTold, wV_X7_wasTold⟩ rfl (T_recv (by decide) (by decide)) rfl rfl (Nat.le_of_ble_eq_true rfl) rfl ?_
            refine J_if_ne (tgt := 70) (n := 66) dX7_readLine_63 (by decide) rfl (fun c_63 => ?_) (fun c_63 => ?_)
            · exact absurd (by rw [hwt]; rfl) c_63
            · refine J_iconst (n := 67) dX7_readLine_66 kI_1 rfl ?_
              refine J_goto (tgt := 71) dX7_readLine_67 (by decide) ?_
              refine J_iconst (n := 72) dX7_readLine_71 kI_4 rfl ?_
              refine J_callVv (n := 75) wS_X7_requires (c_M_requires (d + 5) true (nI 4) ⟨rfl, rfl⟩) dX7_readLine_72 wm_X7_117 ⟨wM_X7_requires, wV_X7_requires⟩ rfl (T_recv (by decide) (by decide)) rfl rfl (Nat.le_of_ble_eq_true rfl) rfl ?_
              rw [rqv_t]
              refine j_rl_75 (td := td) d hw hf (fun v6 hA6 hf6 => ?_)
              rw [hwI]
              refine j_rl_139 d ht (by omega) (hA6.tp (by decide) htp) (n := (tk t L i).2.1) ⟨by rw [hA6.2 16 (by decide)]; exact h16, by rw [hA6.2 12 (by decide)]; exact h12, (tk_le hiL hk4).2⟩ (hD.of (by rw [hA6.1]) (hA6.2 5 (by decide))) hg4 hc6 hpf (fun q => by rw [hA6.2 6 (by decide)]; exact h6 (by rw [← q]; exact hnt (by omega))) (fun q => h7 (by rw [← q]; exact hnt (by omega))) (fun q => hgl q) (fun v7 b1 b2 b3 b4 => ?_)
              refine hq v7 ((hA6.b (by decide)).tr (b1.sub (by decide))) (by rw [hT]; exact b2) (fun x hx0 => ⟨b3 x (by rw [hT] at hx0; exact hx0), hf6.of (b1.2 7 (by decide)) (b1.2 8 (by decide)) (b1.2 9 (by decide)), fun q => ?_⟩)
              have hw4 : ¬ w = 4 := fun e4 => by
                have := tdn_s td w
                rw [e4] at this
                rw [e4, this] at q
                cases q
              rw [b4 hw4, hA6.2 6 (by decide)]
              exact h6 (by rw [tdn_n (fun e => hw4 e.symm)] at q; exact q)
  refine gx_K.of' (lv := [(0, _)]) (by decide) rfl (by decide) (Nat.le_of_ble_eq_true rfl) rfl ?_
  refine J_aload_n (i := 0) (n := 1) dX7_readLine_0 rfl rfl rfl ?_
  refine T_get (k := 14) (n := 4) wk_X7 dX7_readLine_1 wf_X7_103 (by decide) (by decide) rfl rfl ?_
  rw [h14]
  refine J_iconst (n := 5) dX7_readLine_4 kI_1 rfl ?_
  refine J_icmp_ne (tgt := 15) (n := 8) dX7_readLine_5 (by decide) rfl (fun c_5 => ?_) (fun c_5 => ?_)
  · refine J_bipush (n := 17) dX7_readLine_15 kB_m4 rfl ?_
    first
    | (rw [nI_eq (by omega) (by decide)] at c_5
       rw [show tw t L i = wd t (tb t L i) (tk t L i).2.1 from if_pos c_5] at k17
       exact k17)
    | (rw [nI_eq (by omega) (by decide)] at c_5
       rw [show tw t L i = 7 from if_neg c_5] at k17
       exact k17)
  · refine J_aload_n (i := 0) (n := 9) dX7_readLine_8 rfl rfl rfl ?_
    refine J_callVr (n := 12) wS_X7_lineNow (c_M_lineNow (d + 3) ht htp (b := tb t L i) (e := (tk t L i).2.1) htl.1 htl.2 h12 h13 ⟨rfl, rfl⟩) dX7_readLine_9 wm_X7_137 ⟨wM_X7_lineNow, wV_X7_lineNow⟩ rfl (T_recv (by decide) (by decide)) rfl rfl (Nat.le_of_ble_eq_true rfl) rfl ?_
    refine J_goto (tgt := 17) dX7_readLine_12 (by decide) ?_
    first
    | (rw [nI_eq (by omega) (by decide)] at c_5
       rw [show tw t L i = wd t (tb t L i) (tk t L i).2.1 from if_pos c_5] at k17
       exact k17)
    | (rw [nI_eq (by omega) (by decide)] at c_5
       rw [show tw t L i = 7 from if_neg c_5] at k17
       exact k17)
