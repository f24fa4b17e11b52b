theorem bz_all : ∀ b0 b1 b2 b3 : Bool, ∀ j, j < 4 → nI (b0.toNat + 2 * b1.toNat + 4 * b2.toNat + 8 * b3.toNat) ||| (nI 0 <<< (nI j &&& 31)) = nI (b0.toNat + 2 * b1.toNat + 4 * b2.toNat + 8 * b3.toNat) := by decide +kernel
theorem bq_s (F : Nat → Bool) {g : Nat} (hg : g < 4) : nI (pw_bits (fun q => decide (q < g) && F q)) ||| (nI (F g).toNat <<< (nI g &&& 31)) = nI (pw_bits (fun q => decide (q < g + 1) && F q)) := by
  cases h : F g with
  | true => exact bl_t hg h
  | false => exact (bz_all _ _ _ _ g hg).trans (bl_f h)
def cu (F : Nat → Bool) : Nat → Nat
  | 0 => 0
  | n + 1 => cu F n + (F n).toNat
theorem cu_le (F : Nat → Bool) (n : Nat) : cu F n ≤ n := by
  induction n with
  | zero => exact Nat.le_refl _
  | succ n ih => show cu F n + (F n).toNat ≤ _; cases F n <;> simp <;> omega
theorem cu_count {F : Nat → Bool} {n : Nat} (hn : n ≤ 4) (h : ∀ j, n ≤ j → F j = false) : cu F n = pw_count F := by
  unfold pw_count
  rcases (show n = 0 ∨ n = 1 ∨ n = 2 ∨ n = 3 ∨ n = 4 by omega) with rfl | rfl | rfl | rfl | rfl
  · rw [h 0 (by omega), h 1 (by omega), h 2 (by omega), h 3 (by omega)]; rfl
  · rw [h 1 (by omega), h 2 (by omega), h 3 (by omega)]; simp [cu]
  · rw [h 2 (by omega), h 3 (by omega)]; simp [cu]
  · rw [h 3 (by omega)]; simp [cu]
  · simp [cu]
theorem bits_cut {F : Nat → Bool} {n : Nat} (h : ∀ j, n ≤ j → F j = false) : pw_bits (fun q => decide (q < n) && F q) = pw_bits F := bits_ext fun q _ => by
  by_cases e : q < n
  · simp [e]
  · simp [e, h q (by omega)]
theorem aR.ext {a b : Nat → Int32} {p : pw} (h : aR a p) (hB : aB p) (hb : ∀ j, j < 57 → b j = a j) : aR b p := by
  obtain ⟨h1, h2, h3, h4, h5, h6, h7⟩ := h
  obtain ⟨b1, b2⟩ := hB
  exact ⟨fun j hj => (hb j (by omega)).trans (h1 j hj), fun g hg => ⟨(hb _ (by omega)).trans (h2 g hg).1, fun hp => (hb _ (by omega)).trans ((h2 g hg).2.1 hp), (hb _ (by omega)).trans (h2 g hg).2.2.1, (hb _ (by omega)).trans (h2 g hg).2.2.2⟩, fun j hj => (hb _ (by omega)).trans (h3 j hj), (hb _ (by omega)).trans h4, (hb _ (by omega)).trans h5, (hb _ (by omega)).trans h6, (hb _ (by omega)).trans h7⟩
theorem nI_k3 {a : Nat} (h : a < 2 ^ 31) : nI a = 3 ↔ a = 3 := (nI_eq h (by decide : (3 : Nat) < 2 ^ 31))
set_option maxHeartbeats 4000000 in
set_option maxRecDepth 100000 in
theorem c_M_stepOf {G : gx_G} {σ : gs_S} {Q : Option Value → gx_Hp → Prop} {p : pw} (d : Nat) {j : Nat} (hm : mN (σ 7 0) p) (hO : pOk p) (hj : j < p.2.2 6) (hat : p.2.1 j = true → p.1 2 j = p.2.2 8) (hq : Q (some (.int (nI (pw_step p j)))) (hp G σ)) : gx_K G yX7_stepOf mX7_stepOf (d + 3) 0 0 [.ref (gs_a G 7 0 0), .int (nI j)] (hp G σ) Q := by
  have hB := hO.aB
  have h4 : p.2.2 6 ≤ 4 := hB.1
  obtain ⟨hk3, ha11, hw20⟩ := hO.2.1 j hj
  have hm11 : p.2.2 8 ≤ 11 := hO.2.2.2.2.2.2.1
  have e0 := (hm.1.2.1 j hj).1
  have e28 := hm.1.2.2.2.1
  have hst := st_all (p.1 2 j) (by omega)
  have f1 := far_lt ((p.1 2 j + 1) % 12) (by omega) (p.2.2 8) (by omega)
  have f2 := far_lt ((p.1 2 j + 11) % 12) (by omega) (p.2.2 8) (by omega)
  have hdf := df_all _ f2 _ f1
  refine gx_K.of' (lv := [(0, _), (1, _)]) (by decide) rfl (by decide) (Nat.le_of_ble_eq_true rfl) rfl ?_
  refine J_aload_n (i := 0) (n := 1) dX7_stepOf_0 rfl rfl rfl ?_
  refine J_iload_n (i := 1) (n := 2) dX7_stepOf_1 rfl rfl rfl ?_
  refine J_callVr (n := 5) wS_X7_doorOf (c_M_doorOf d hm hB hj hat ⟨rfl, rfl⟩) dX7_stepOf_2 wm_X7_160 ⟨wM_X7_doorOf, wV_X7_doorOf⟩ rfl (T_recv (by decide) (by first | assumption | decide)) rfl rfl (Nat.le_of_ble_eq_true rfl) rfl ?_
  refine J_istore_n (i := 2) (n := 6) (lv' := [(0, _), (1, _), (2, _)]) dX7_stepOf_5 rfl (by decide) rfl rfl ?_
  refine J_iload_n (i := 2) (n := 7) dX7_stepOf_6 rfl rfl rfl ?_
  refine J_iconst (n := 8) dX7_stepOf_7 kI_1 rfl ?_
  refine J_iadd (n := 9) dX7_stepOf_8 rfl ?_
  refine J_bipush (n := 11) dX7_stepOf_9 kB_12 rfl ?_
  refine J_irem (n := 12) dX7_stepOf_11 n12 rfl ?_
  rw [hst.1]
  refine J_istore_n (i := 3) (n := 13) (lv' := [(0, _), (1, _), (2, _), (3, _)]) dX7_stepOf_12 rfl (by decide) rfl rfl ?_
  refine J_iload_n (i := 2) (n := 14) dX7_stepOf_13 rfl rfl rfl ?_
  refine J_bipush (n := 16) dX7_stepOf_14 kB_12 rfl ?_
  refine J_iadd (n := 17) dX7_stepOf_16 rfl ?_
  refine J_iconst (n := 18) dX7_stepOf_17 kI_1 rfl ?_
  refine J_isub (n := 19) dX7_stepOf_18 rfl ?_
  refine J_bipush (n := 21) dX7_stepOf_19 kB_12 rfl ?_
  refine J_irem (n := 22) dX7_stepOf_21 n12 rfl ?_
  rw [hst.2.1]
  refine J_istore (i := 4) (n := 24) (lv' := [(0, _), (1, _), (2, _), (3, _), (4, _)]) dX7_stepOf_22 (by decide) rfl rfl ?_
  refine J_iload (i := 4) (n := 26) dX7_stepOf_24 rfl rfl ?_
  refine J_aload_n (i := 0) (n := 27) dX7_stepOf_26 rfl rfl rfl ?_
  refine T_getO (k := 1) (n := 30) wk_X7 dX7_stepOf_27 wf_X7_13 (by decide) (by first | assumption | decide) rfl rfl ?_
  refine J_bipush (n := 32) dX7_stepOf_30 kB_28 rfl ?_
  refine T_ialdO (c := 7) (k := 1) (N := 57) (n := 33) dX7_stepOf_32 (by decide) (by first | assumption | decide) rfl (vp_in_nI (by decide) (by decide)) rfl ?_
  rw [nI_clamp (by decide), e28]
  refine J_callSr (n := 36) wS_X7_apart (c_M_apart (d + 2) (by omega) (by omega) ⟨rfl, rfl⟩) dX7_stepOf_33 wm_X7_163 wT_X7_apart rfl rfl (Nat.le_of_ble_eq_true rfl) rfl ?_
  refine J_iload_n (i := 3) (n := 37) dX7_stepOf_36 rfl rfl rfl ?_
  refine J_aload_n (i := 0) (n := 38) dX7_stepOf_37 rfl rfl rfl ?_
  refine T_getO (k := 1) (n := 41) wk_X7 dX7_stepOf_38 wf_X7_13 (by decide) (by first | assumption | decide) rfl rfl ?_
  refine J_bipush (n := 43) dX7_stepOf_41 kB_28 rfl ?_
  refine T_ialdO (c := 7) (k := 1) (N := 57) (n := 44) dX7_stepOf_43 (by decide) (by first | assumption | decide) rfl (vp_in_nI (by decide) (by decide)) rfl ?_
  rw [nI_clamp (by decide), e28]
  refine J_callSr (n := 47) wS_X7_apart (c_M_apart (d + 2) (by omega) (by omega) ⟨rfl, rfl⟩) dX7_stepOf_44 wm_X7_163 wT_X7_apart rfl rfl (Nat.le_of_ble_eq_true rfl) rfl ?_
  refine J_isub (n := 48) dX7_stepOf_47 rfl ?_
  refine J_istore (i := 5) (n := 50) (lv' := [(0, _), (1, _), (2, _), (3, _), (4, _), (5, _)]) dX7_stepOf_48 (by decide) rfl rfl ?_
  refine J_aload_n (i := 0) (n := 51) dX7_stepOf_50 rfl rfl rfl ?_
  refine J_iload_n (i := 1) (n := 52) dX7_stepOf_51 rfl rfl rfl ?_
  refine J_iconst (n := 53) dX7_stepOf_52 kI_0 rfl ?_
  refine J_callVr (n := 56) wS_X7_of (c_M_of (d + 2) (j := j) (k := 0) (by omega) (by omega) ⟨rfl, rfl⟩) dX7_stepOf_53 wm_X7_154 ⟨wM_X7_of, wV_X7_of⟩ rfl (T_recv (by decide) (by first | assumption | decide)) rfl rfl (Nat.le_of_ble_eq_true rfl) rfl ?_
  rw [e0]
  by_cases e_56_1 : nI (p.1 1 j) = 1
  · rw [e_56_1]
    refine J_tableIn (off := 28) (tgt := 84) dX7_stepOf_56 (by decide) (by decide) (by decide) (by decide) ?_
    refine J_iload_n (i := 2) (n := 85) dX7_stepOf_84 rfl rfl rfl ?_
    refine J_iconst (n := 86) dX7_stepOf_85 kI_2 rfl ?_
    refine J_iadd (n := 87) dX7_stepOf_86 rfl ?_
    refine J_bipush (n := 89) dX7_stepOf_87 kB_12 rfl ?_
    refine J_irem (n := 90) dX7_stepOf_89 n12 rfl ?_
    rw [st2_all _ (by omega)]
    refine J_iret dX7_stepOf_90 rfl (kN_i _) ?_
    rw [nI_k1 (by omega)] at e_56_1
    unfold pw_step at hq
    rw [if_neg (by omega), if_pos e_56_1] at hq
    exact hq
  by_cases e_56_2 : nI (p.1 1 j) = 2
  · rw [e_56_2]
    refine J_tableIn (off := 35) (tgt := 91) dX7_stepOf_56 (by decide) (by decide) (by decide) (by decide) ?_
    refine J_iload (i := 5) (n := 93) dX7_stepOf_91 rfl rfl ?_
    refine J_if_le (tgt := 101) (n := 96) dX7_stepOf_93 (by decide) rfl (fun c_93 => ?_) (fun c_93 => ?_)
    · refine J_iload_n (i := 3) (n := 102) dX7_stepOf_101 rfl rfl rfl ?_
      refine J_iret dX7_stepOf_102 rfl (kN_i _) ?_
      rw [nI_k2 (by omega)] at e_56_2
      rw [hdf.1] at c_93
      unfold pw_step at hq
      rw [if_neg (by omega), if_neg (by omega), if_pos e_56_2] at hq
      first | (rw [if_neg (by omega)] at hq; exact hq) | (rw [if_pos (by omega)] at hq; exact hq)
    · refine J_iload (i := 4) (n := 98) dX7_stepOf_96 rfl rfl ?_
      refine J_goto (tgt := 102) dX7_stepOf_98 (by decide) ?_
      refine J_iret dX7_stepOf_102 rfl (kN_i _) ?_
      rw [nI_k2 (by omega)] at e_56_2
      rw [hdf.1] at c_93
      unfold pw_step at hq
      rw [if_neg (by omega), if_neg (by omega), if_pos e_56_2] at hq
      first | (rw [if_neg (by omega)] at hq; exact hq) | (rw [if_pos (by omega)] at hq; exact hq)
  by_cases e_56_3 : nI (p.1 1 j) = 3
  · rw [e_56_3]
    refine J_tableIn (off := 47) (tgt := 103) dX7_stepOf_56 (by decide) (by decide) (by decide) (by decide) ?_
    refine J_iload (i := 5) (n := 105) dX7_stepOf_103 rfl rfl ?_
    refine J_if_ge (tgt := 113) (n := 108) dX7_stepOf_105 (by decide) rfl (fun c_105 => ?_) (fun c_105 => ?_)
    · refine J_iload_n (i := 3) (n := 114) dX7_stepOf_113 rfl rfl rfl ?_
      refine J_iret dX7_stepOf_114 rfl (kN_i _) ?_
      rw [nI_k3 (by omega)] at e_56_3
      rw [hdf.2] at c_105
      unfold pw_step at hq
      rw [if_neg (by omega), if_neg (by omega), if_neg (by omega)] at hq
      first | (rw [if_neg (by omega)] at hq; exact hq) | (rw [if_pos (by omega)] at hq; exact hq)
    · refine J_iload (i := 4) (n := 110) dX7_stepOf_108 rfl rfl ?_
      refine J_goto (tgt := 114) dX7_stepOf_110 (by decide) ?_
      refine J_iret dX7_stepOf_114 rfl (kN_i _) ?_
      rw [nI_k3 (by omega)] at e_56_3
      rw [hdf.2] at c_105
      unfold pw_step at hq
      rw [if_neg (by omega), if_neg (by omega), if_neg (by omega)] at hq
      first | (rw [if_neg (by omega)] at hq; exact hq) | (rw [if_pos (by omega)] at hq; exact hq)
  refine J_tableOut (tgt := 115) dX7_stepOf_56 (by have q_0 := lv_neT (a := 1) e_56_1 rfl; have q_1 := lv_neT (a := 2) e_56_2 rfl; have q_2 := lv_neT (a := 3) e_56_3 rfl; omega) (by decide) ?_
  refine J_iload_n (i := 3) (n := 116) dX7_stepOf_115 rfl rfl rfl ?_
  refine J_iret dX7_stepOf_116 rfl (kN_i _) ?_
  rw [nI_k1 (by omega)] at e_56_1
  rw [nI_k2 (by omega)] at e_56_2
  rw [nI_k3 (by omega)] at e_56_3
  unfold pw_step at hq
  rw [if_pos (by omega)] at hq
  exact hq

set_option maxHeartbeats 4000000 in
set_option maxRecDepth 100000 in
theorem c_M_gloveGoes {G : gx_G} {σ : gs_S} {Q : Option Value → gx_Hp → Prop} {p : pw} {v : gs_Ob} (d : Nat) {j : Nat} (hm : mN v p) (hO : pOk p) (hj : j < p.2.2 6) (hq : ∀ v1, mN v1 (pw_glove p j) → mE v v1 → Q none (hp G (gs_set σ 7 0 v1))) : gx_K G yX7_gloveGoes mX7_gloveGoes (d + 4) 0 0 [.ref (gs_a G 7 0 0), .int (nI j)] (hp G (gs_set σ 7 0 v)) Q := by
  have hB := hO.aB
  have h4 : p.2.2 6 ≤ 4 := hB.1
  obtain ⟨hk3, ha11, hw20⟩ := hO.2.1 j hj
  have hm11 : p.2.2 8 ≤ 11 := hO.2.2.2.2.2.2.1
  have hn9 : p.2.2 9 ≤ 9999 := hO.2.2.2.2.2.2.2
  have hs11 := pw_step_le p j
  have f9 := hO.1 (pw_step p j) (by omega)
  have hm0 : mN (gs_set σ 7 0 v 7 0) p := by rw [gs_same]; exact hm
  have e2 := (hm.1.2.1 j hj).2.2.1
  refine gx_K.of' (lv := [(0, _), (1, _)]) (by decide) rfl (by decide) (Nat.le_of_ble_eq_true rfl) rfl ?_
  refine J_aload_n (i := 0) (n := 1) dX7_gloveGoes_0 rfl rfl rfl ?_
  refine J_iload_n (i := 1) (n := 2) dX7_gloveGoes_1 rfl rfl rfl ?_
  refine J_callVr (n := 5) wS_X7_isPaired (c_M_isPaired (d + 2) hm0 hB hj ⟨rfl, rfl⟩) dX7_gloveGoes_2 wm_X7_157 ⟨wM_X7_isPaired, wV_X7_isPaired⟩ rfl (T_recv (by decide) (by first | assumption | decide)) rfl rfl (Nat.le_of_ble_eq_true rfl) rfl ?_
  refine J_if_eq (tgt := 28) (n := 8) dX7_gloveGoes_5 (by decide) rfl (fun c_5 => ?_) (fun c_5 => ?_)
  · refine J_aload_n (i := 0) (n := 29) dX7_gloveGoes_28 rfl rfl rfl ?_
    refine J_iload_n (i := 1) (n := 30) dX7_gloveGoes_29 rfl rfl rfl ?_
    refine J_callVr (n := 33) wS_X7_isCold (c_M_isCold (d + 1) hm0 hO hj ⟨rfl, rfl⟩) dX7_gloveGoes_30 wm_X7_173 ⟨wM_X7_isCold, wV_X7_isCold⟩ rfl (T_recv (by decide) (by first | assumption | decide)) rfl rfl (Nat.le_of_ble_eq_true rfl) rfl ?_
    refine J_if_eq (tgt := 37) (n := 36) dX7_gloveGoes_33 (by decide) rfl (fun c_33 => ?_) (fun c_33 => ?_)
    · refine J_aload_n (i := 0) (n := 38) dX7_gloveGoes_37 rfl rfl rfl ?_
      refine J_iload_n (i := 1) (n := 39) dX7_gloveGoes_38 rfl rfl rfl ?_
      refine J_callVr (n := 42) wS_X7_stepOf (c_M_stepOf d hm0 hO hj (fun q => absurd ((nb_0 _).mp c_5) (by rw [q]; decide)) ⟨rfl, rfl⟩) dX7_gloveGoes_39 wm_X7_176 ⟨wM_X7_stepOf, wV_X7_stepOf⟩ rfl (T_recv (by decide) (by first | assumption | decide)) rfl rfl (Nat.le_of_ble_eq_true rfl) rfl ?_
      refine J_istore_n (i := 2) (n := 43) (lv' := [(0, _), (1, _), (2, _)]) dX7_gloveGoes_42 rfl (by decide) rfl rfl ?_
      refine J_aload_n (i := 0) (n := 44) dX7_gloveGoes_43 rfl rfl rfl ?_
      refine J_iload_n (i := 1) (n := 45) dX7_gloveGoes_44 rfl rfl rfl ?_
      refine J_iconst (n := 46) dX7_gloveGoes_45 kI_1 rfl ?_
      refine J_iload_n (i := 2) (n := 47) dX7_gloveGoes_46 rfl rfl rfl ?_
      refine J_callVv (n := 50) wS_X7_becomesOf (c_M_becomesOf (d + 3) _ (by omega) (by omega) ⟨rfl, rfl⟩) dX7_gloveGoes_47 wm_X7_169 ⟨wM_X7_becomesOf, wV_X7_becomesOf⟩ rfl (T_recv (by decide) (by first | assumption | decide)) rfl rfl (Nat.le_of_ble_eq_true rfl) rfl ?_
      have hm1 : mN (gs_w v 1 (upd (v.1 1) (12 + 4 * j + 1) (nI (pw_step p j)))) (pw_a p 2 j (pw_step p j)) := ⟨by rw [gs_w1]; exact hm.1.put hB _ hj (Or.inl rfl), hm.2⟩
      have hE1 := mE.w v (i := 12 + 4 * j + 1) (x := nI (pw_step p j)) (by omega)
      generalize gs_w v 1 (upd (v.1 1) (12 + 4 * j + 1) (nI (pw_step p j))) = v1 at hm1 hE1 ⊢
      have m28 : v1.1 1 28 = nI (p.2.2 8) := hm1.1.2.2.2.1
      have m36 : v1.1 1 36 = nI (p.2.2 9) := hm1.1.2.2.2.2.2.1
      have mf : v1.1 1 (pw_step p j) = nI (p.1 0 (pw_step p j)) := hm1.1.1 _ (by omega)
      have mat : v1.1 1 (12 + 4 * j + 1) = nI ((pw_a p 2 j (pw_step p j)).1 2 j) := (hm1.1.2.1 j hj).2.1 ((nb_0 _).mp c_5)
      obtain ⟨c_5, hnc⟩ := pc_f c_5 c_33
      refine J_iload_n (i := 2) (n := 51) dX7_gloveGoes_50 rfl rfl rfl ?_
      refine J_aload_n (i := 0) (n := 52) dX7_gloveGoes_51 rfl rfl rfl ?_
      refine T_get (k := 1) (n := 55) wk_X7 dX7_gloveGoes_52 wf_X7_13 (by decide) (by first | assumption | decide) rfl rfl ?_
      refine J_bipush (n := 57) dX7_gloveGoes_55 kB_28 rfl ?_
      refine T_iald (c := 7) (k := 1) (N := 57) (n := 58) dX7_gloveGoes_57 (by decide) (by first | assumption | decide) rfl (vp_in_nI (by decide) (by decide)) rfl ?_
      rw [nI_clamp (by decide), m28]
      refine J_icmp_ne (tgt := 71) (n := 61) dX7_gloveGoes_58 (by decide) rfl (fun c_58 => ?_) (fun c_58 => ?_)
      · refine J_aload_n (i := 0) (n := 72) dX7_gloveGoes_71 rfl rfl rfl ?_
        refine T_get (k := 1) (n := 75) wk_X7 dX7_gloveGoes_72 wf_X7_13 (by decide) (by first | assumption | decide) rfl rfl ?_
        refine J_bipush (n := 77) dX7_gloveGoes_75 kB_36 rfl ?_
        refine J_sipush (n := 80) dX7_gloveGoes_77 kS_9999 rfl ?_
        refine J_aload_n (i := 0) (n := 81) dX7_gloveGoes_80 rfl rfl rfl ?_
        refine T_get (k := 1) (n := 84) wk_X7 dX7_gloveGoes_81 wf_X7_13 (by decide) (by first | assumption | decide) rfl rfl ?_
        refine J_bipush (n := 86) dX7_gloveGoes_84 kB_36 rfl ?_
        refine T_iald (c := 7) (k := 1) (N := 57) (n := 87) dX7_gloveGoes_86 (by decide) (by first | assumption | decide) rfl (vp_in_nI (by decide) (by decide)) rfl ?_
        rw [nI_clamp (by decide), m36]
        refine J_aload_n (i := 0) (n := 88) dX7_gloveGoes_87 rfl rfl rfl ?_
        refine T_get (k := 1) (n := 91) wk_X7 dX7_gloveGoes_88 wf_X7_13 (by decide) (by first | assumption | decide) rfl rfl ?_
        refine J_iload_n (i := 2) (n := 92) dX7_gloveGoes_91 rfl rfl rfl ?_
        refine T_iald (c := 7) (k := 1) (N := 57) (n := 93) dX7_gloveGoes_92 (by decide) (by first | assumption | decide) rfl (vp_in_nI (by omega) (by decide)) rfl ?_
        rw [nI_clamp (by omega), mf]
        refine J_iadd (n := 94) dX7_gloveGoes_93 rfl ?_
        rw [nI_add]
        refine J_callSr (n := 97) wS_X7_lesser (c_M_lesser (d + 3) (by omega) (by omega) ⟨rfl, rfl⟩) dX7_gloveGoes_94 wm_X7_166 wT_X7_lesser rfl rfl (Nat.le_of_ble_eq_true rfl) rfl ?_
        refine T_iast (c := 7) (k := 1) (N := 57) (n := 98) dX7_gloveGoes_97 (by decide) (by first | assumption | decide) (fun _ => rfl) (vp_in_nI (by decide) (by decide)) rfl ?_
        rw [nI_clamp (by decide)]
        have hm2 : mN (gs_w v1 1 (upd (v1.1 1) 36 (nI (min 9999 (p.2.2 9 + p.1 0 (pw_step p j)))))) (pw_f (pw_a p 2 j (pw_step p j)) 9 (min 9999 (p.2.2 9 + p.1 0 (pw_step p j)))) := ⟨by rw [gs_w1]; exact hm1.1.num hB _ (Or.inr (Or.inl ⟨rfl, rfl⟩)), hm1.2⟩
        have hE2 := mE.w v1 (i := 36) (x := nI (min 9999 (p.2.2 9 + p.1 0 (pw_step p j)))) (by omega)
        generalize gs_w v1 1 (upd (v1.1 1) 36 (nI (min 9999 (p.2.2 9 + p.1 0 (pw_step p j))))) = v2 at hm2 hE2 ⊢
        have m2 : v2.1 1 (12 + 4 * j + 2) = nI (p.1 3 j) := (hm2.1.2.1 j hj).2.2.1
        refine J_aload_n (i := 0) (n := 99) dX7_gloveGoes_98 rfl rfl rfl ?_
        refine J_iload_n (i := 1) (n := 100) dX7_gloveGoes_99 rfl rfl rfl ?_
        refine J_iconst (n := 101) dX7_gloveGoes_100 kI_2 rfl ?_
        refine J_aload_n (i := 0) (n := 102) dX7_gloveGoes_101 rfl rfl rfl ?_
        refine J_iload_n (i := 1) (n := 103) dX7_gloveGoes_102 rfl rfl rfl ?_
        refine J_iconst (n := 104) dX7_gloveGoes_103 kI_2 rfl ?_
        refine J_callVr (n := 107) wS_X7_of (c_M_of (d + 3) (j := j) (k := 2) (by omega) (by omega) ⟨rfl, rfl⟩) dX7_gloveGoes_104 wm_X7_154 ⟨wM_X7_of, wV_X7_of⟩ rfl (T_recv (by decide) (by first | assumption | decide)) rfl rfl (Nat.le_of_ble_eq_true rfl) rfl ?_
        rw [gs_same, m2]
        refine J_iconst (n := 108) dX7_gloveGoes_107 kI_1 rfl ?_
        refine J_isub (n := 109) dX7_gloveGoes_108 rfl ?_
        rw [pk_sub (by omega)]
        refine J_callVv (n := 112) wS_X7_becomesOf (c_M_becomesOf (d + 3) _ (by omega) (by omega) ⟨rfl, rfl⟩) dX7_gloveGoes_109 wm_X7_169 ⟨wM_X7_becomesOf, wV_X7_becomesOf⟩ rfl (T_recv (by decide) (by first | assumption | decide)) rfl rfl (Nat.le_of_ble_eq_true rfl) rfl ?_
        refine J_vret dX7_gloveGoes_112 rfl ?_
        rw [nI_eq (by omega) (by omega)] at c_58
        first
        | (refine hq _ ⟨?_, by rw [pw_glove_f _ _ _ (by decide)]; exact hm1.2⟩ (hE1.tr (mE.w _ (by omega)))
           rw [gs_w1]
           unfold pw_glove
           rw [c_5, if_neg (by decide), if_neg hnc, if_pos c_58]
           exact hm1.1.pair hB true hj (fun q => absurd q (by decide)))
        | (refine hq _ ⟨?_, by rw [pw_glove_f _ _ _ (by decide)]; exact hm2.2⟩ ((hE1.tr hE2).tr (mE.w _ (by omega)))
           rw [gs_w1]
           unfold pw_glove
           rw [c_5, if_neg (by decide), if_neg hnc, if_neg c_58, Nat.min_comm]
           exact hm2.1.put hB _ hj (Or.inr rfl))
      · refine J_aload_n (i := 0) (n := 62) dX7_gloveGoes_61 rfl rfl rfl ?_
        refine J_iload_n (i := 1) (n := 63) dX7_gloveGoes_62 rfl rfl rfl ?_
        refine J_iconst (n := 64) dX7_gloveGoes_63 kI_3 rfl ?_
        refine J_iconst (n := 65) dX7_gloveGoes_64 kI_1 rfl ?_
        refine J_callVv (n := 68) wS_X7_becomesOf (c_M_becomesOf (d + 3) _ (by omega) (by omega) ⟨rfl, rfl⟩) dX7_gloveGoes_65 wm_X7_169 ⟨wM_X7_becomesOf, wV_X7_becomesOf⟩ rfl (T_recv (by decide) (by first | assumption | decide)) rfl rfl (Nat.le_of_ble_eq_true rfl) rfl ?_
        refine J_goto (tgt := 112) dX7_gloveGoes_68 (by decide) ?_
        refine J_vret dX7_gloveGoes_112 rfl ?_
        rw [nI_eq (by omega) (by omega)] at c_58
        first
        | (refine hq _ ⟨?_, by rw [pw_glove_f _ _ _ (by decide)]; exact hm1.2⟩ (hE1.tr (mE.w _ (by omega)))
           rw [gs_w1]
           unfold pw_glove
           rw [c_5, if_neg (by decide), if_neg hnc, if_pos c_58]
           exact hm1.1.pair hB true hj (fun q => absurd q (by decide)))
        | (refine hq _ ⟨?_, by rw [pw_glove_f _ _ _ (by decide)]; exact hm2.2⟩ ((hE1.tr hE2).tr (mE.w _ (by omega)))
           rw [gs_w1]
           unfold pw_glove
           rw [c_5, if_neg (by decide), if_neg hnc, if_neg c_58, Nat.min_comm]
           exact hm2.1.put hB _ hj (Or.inr rfl))
    · refine J_vret dX7_gloveGoes_36 rfl ?_
      refine hq _ ?_ (mE.rf _)
      unfold pw_glove
      rw [(pc_t c_5 c_33).1, if_neg (by decide), if_pos (pc_t c_5 c_33).2]
      exact hm
  · refine J_aload_n (i := 0) (n := 9) dX7_gloveGoes_8 rfl rfl rfl ?_
    refine J_iload_n (i := 1) (n := 10) dX7_gloveGoes_9 rfl rfl rfl ?_
    refine J_iconst (n := 11) dX7_gloveGoes_10 kI_2 rfl ?_
    refine J_bipush (n := 13) dX7_gloveGoes_11 kB_20 rfl ?_
    refine J_aload_n (i := 0) (n := 14) dX7_gloveGoes_13 rfl rfl rfl ?_
    refine J_iload_n (i := 1) (n := 15) dX7_gloveGoes_14 rfl rfl rfl ?_
    refine J_iconst (n := 16) dX7_gloveGoes_15 kI_2 rfl ?_
    refine J_callVr (n := 19) wS_X7_of (c_M_of (d + 3) (j := j) (k := 2) (by omega) (by omega) ⟨rfl, rfl⟩) dX7_gloveGoes_16 wm_X7_154 ⟨wM_X7_of, wV_X7_of⟩ rfl (T_recv (by decide) (by first | assumption | decide)) rfl rfl (Nat.le_of_ble_eq_true rfl) rfl ?_
    rw [gs_same, e2]
    refine J_iconst (n := 20) dX7_gloveGoes_19 kI_1 rfl ?_
    refine J_iadd (n := 21) dX7_gloveGoes_20 rfl ?_
    rw [nI_add]
    refine J_callSr (n := 24) wS_X7_lesser (c_M_lesser (d + 3) (by omega) (by omega) ⟨rfl, rfl⟩) dX7_gloveGoes_21 wm_X7_166 wT_X7_lesser rfl rfl (Nat.le_of_ble_eq_true rfl) rfl ?_
    refine J_callVv (n := 27) wS_X7_becomesOf (c_M_becomesOf (d + 3) _ (by omega) (by omega) ⟨rfl, rfl⟩) dX7_gloveGoes_24 wm_X7_169 ⟨wM_X7_becomesOf, wV_X7_becomesOf⟩ rfl (T_recv (by decide) (by first | assumption | decide)) rfl rfl (Nat.le_of_ble_eq_true rfl) rfl ?_
    refine J_vret dX7_gloveGoes_27 rfl ?_
    refine hq _ ⟨?_, by rw [pw_glove_f _ _ _ (by decide)]; exact hm.2⟩ (mE.w _ (by omega))
    rw [gs_w1]
    unfold pw_glove
    rw [if_pos (pc_p c_5), Nat.min_comm]
    exact (hm.1.stale (p.2.2 8) (pc_p c_5)).put hB _ hj (Or.inr rfl)

set_option maxHeartbeats 4000000 in
set_option maxRecDepth 100000 in
theorem c_M_dayGoesAt {G : gx_G} {σ : gs_S} {Q : Option Value → gx_Hp → Prop} {p : pw} {v : gs_Ob} (d : Nat) {e : Nat} (hm : mN v p) (hO : pOk p) (he : e ≤ 11) (hday : p.2.2 10 < 2 ^ 30) (hq : ∀ v1, mN v1 (pw_day p e) → mE v v1 → Q none (hp G (gs_set σ 7 0 v1))) : gx_K G yX7_dayGoesAt mX7_dayGoesAt (d + 5) 0 0 [.ref (gs_a G 7 0 0), .int (nI e)] (hp G (gs_set σ 7 0 v)) Q := by
  have hB := hO.aB
  have h4 : p.2.2 6 ≤ 4 := hB.1
  have loop : ∀ n g v1, p.2.2 6 - g < n → g ≤ p.2.2 6 → mN v1 (pw_gloves (pw_f p 8 e) g) → mE v v1 → gx_J G mX7_dayGoesAt (d + 5) 0 0 Q 10 [(0, .ref (gs_a G 7 0 0)), (1, .int (nI e)), (2, .int (nI g))] [] (hp G (gs_set σ 7 0 v1)) := by
    intro n
    induction n with
    | zero => intros; exact absurd (by assumption) (Nat.not_lt_zero _)
    | succ n ih =>
      intro g v1 hn hg hm1 hE
      have e6 : v1.2.1 3 = nI (p.2.2 6) := by rw [hm1.2, pw_gloves_f _ _ _ (by decide)]; rfl
      have e10 : v1.1 1 37 = nI (p.2.2 10) := by rw [hm1.1.2.2.2.2.2.2, pw_gloves_f _ _ _ (by decide)]; rfl
      refine J_iload_n (i := 2) (n := 11) dX7_dayGoesAt_10 rfl rfl rfl ?_
      refine J_aload_n (i := 0) (n := 12) dX7_dayGoesAt_11 rfl rfl rfl ?_
      refine T_get (k := 3) (n := 15) wk_X7 dX7_dayGoesAt_12 wf_X7_67 (by decide) (by first | assumption | decide) rfl rfl ?_
      rw [e6]
      refine J_icmp_ge (tgt := 29) (n := 18) dX7_dayGoesAt_15 (by decide) rfl (fun c_15 => ?_) (fun c_15 => ?_)
      · refine J_aload_n (i := 0) (n := 30) dX7_dayGoesAt_29 rfl rfl rfl ?_
        refine T_get (k := 1) (n := 33) wk_X7 dX7_dayGoesAt_30 wf_X7_13 (by decide) (by first | assumption | decide) rfl rfl ?_
        refine J_bipush (n := 35) dX7_dayGoesAt_33 kB_37 rfl ?_
        refine J_dup2 (n := 36) dX7_dayGoesAt_35 rfl rfl rfl ?_
        refine T_iald (c := 7) (k := 1) (N := 57) (n := 37) dX7_dayGoesAt_36 (by decide) (by first | assumption | decide) rfl (vp_in_nI (by decide) (by decide)) rfl ?_
        rw [nI_clamp (by decide), e10]
        refine J_iconst (n := 38) dX7_dayGoesAt_37 kI_1 rfl ?_
        refine J_iadd (n := 39) dX7_dayGoesAt_38 rfl ?_
        rw [nI_add]
        refine T_iast (c := 7) (k := 1) (N := 57) (n := 40) dX7_dayGoesAt_39 (by decide) (by first | assumption | decide) (fun _ => rfl) (vp_in_nI (by decide) (by decide)) rfl ?_
        refine J_vret dX7_dayGoesAt_40 rfl ?_
        rw [nI_leI (by omega) (by omega)] at c_15
        have eg : g = p.2.2 6 := by omega
        subst eg
        rw [nI_clamp (by decide)]
        refine hq _ ⟨?_, ?_⟩ (hE.tr (mE.w _ (by omega)))
        · rw [gs_w1]
          exact hm1.1.num (pw_gloves_ok (pw_f8_ok hO he) _ (Nat.le_refl _)).aB _ (Or.inr (Or.inr ⟨rfl, rfl⟩))
        · exact hm1.2
      · rw [nI_leI (by omega) (by omega)] at c_15
        refine J_aload_n (i := 0) (n := 19) dX7_dayGoesAt_18 rfl rfl rfl ?_
        refine J_iload_n (i := 2) (n := 20) dX7_dayGoesAt_19 rfl rfl rfl ?_
        refine J_callVx (n := 23) wS_X7_gloveGoes (c_M_gloveGoes (Q := fun r h => r = none ∧ ∃ v2, mN v2 (pw_glove (pw_gloves (pw_f p 8 e) g) g) ∧ mE v1 v2 ∧ h = hp G (gs_set σ 7 0 v2)) d hm1 (pw_gloves_ok (pw_f8_ok hO he) g hg) (by rw [pw_gloves_f _ _ _ (by decide)]; show g < p.2.2 6; omega) (fun v2 h2 h3 => ⟨rfl, v2, h2, h3, rfl⟩)) dX7_dayGoesAt_20 wm_X7_179 ⟨wM_X7_gloveGoes, wV_X7_gloveGoes⟩ rfl (T_recv (by decide) (by first | assumption | decide)) rfl rfl (Nat.le_of_ble_eq_true rfl) rfl (fun r h1 hq1 => ?_)
        obtain ⟨rfl, v2, hm2, hE2, rfl⟩ := hq1
        refine J_inc (i := 2) (n := 26) (lv' := [(0, _), (1, _), (2, _)]) dX7_dayGoesAt_23 rfl (by decide) rfl rfl ?_
        refine J_goto (tgt := 10) dX7_dayGoesAt_26 (by decide) ?_
        exact ih (g + 1) v2 (by omega) (by omega) hm2 (hE.tr hE2)
  refine gx_K.of' (lv := [(0, _), (1, _)]) (by decide) rfl (by decide) (Nat.le_of_ble_eq_true rfl) rfl ?_
  refine J_aload_n (i := 0) (n := 1) dX7_dayGoesAt_0 rfl rfl rfl ?_
  refine T_get (k := 1) (n := 4) wk_X7 dX7_dayGoesAt_1 wf_X7_13 (by decide) (by first | assumption | decide) rfl rfl ?_
  refine J_bipush (n := 6) dX7_dayGoesAt_4 kB_28 rfl ?_
  refine J_iload_n (i := 1) (n := 7) dX7_dayGoesAt_6 rfl rfl rfl ?_
  refine T_iast (c := 7) (k := 1) (N := 57) (n := 8) dX7_dayGoesAt_7 (by decide) (by first | assumption | decide) (fun _ => rfl) (vp_in_nI (by decide) (by decide)) rfl ?_
  refine J_iconst (n := 9) dX7_dayGoesAt_8 kI_0 rfl ?_
  refine J_istore_n (i := 2) (n := 10) (lv' := [(0, _), (1, _), (2, _)]) dX7_dayGoesAt_9 rfl (by decide) rfl rfl ?_
  rw [nI_clamp (by decide)]
  refine loop (p.2.2 6 + 1) 0 _ (by omega) (by omega) ⟨?_, hm.2⟩ (mE.w _ (by omega))
  rw [gs_w1]
  exact hm.1.num hB _ (Or.inl ⟨rfl, rfl⟩)

set_option maxHeartbeats 4000000 in
set_option maxRecDepth 100000 in
theorem c_M_nextDoor {G : gx_G} {σ : gs_S} {Q : Option Value → gx_Hp → Prop} {p : pw} (d : Nat) (hm : mN (σ 7 0) p) (hO : pOk p) (hday : p.2.2 10 < 2 ^ 30) (hq : Q (some (.int (nI (pw_next p)))) (hp G σ)) : gx_K G yX7_nextDoor mX7_nextDoor d 0 0 [.ref (gs_a G 7 0 0)] (hp G σ) Q := by
  have h6 : p.2.2 7 ≤ 6 := hO.2.2.2.2.2.1
  obtain ⟨-, -, er, e28, e29, -, e37⟩ := hm.1
  unfold pw_next at hq
  refine gx_K.of' (lv := [(0, _)]) (by decide) rfl (by decide) (Nat.le_of_ble_eq_true rfl) rfl ?_
  refine J_aload_n (i := 0) (n := 1) dX7_nextDoor_0 rfl rfl rfl ?_
  refine T_getO (k := 1) (n := 4) wk_X7 dX7_nextDoor_1 wf_X7_13 (by decide) (by first | assumption | decide) rfl rfl ?_
  refine J_bipush (n := 6) dX7_nextDoor_4 kB_29 rfl ?_
  refine T_ialdO (c := 7) (k := 1) (N := 57) (n := 7) dX7_nextDoor_6 (by decide) (by first | assumption | decide) rfl (vp_in_nI (by decide) (by decide)) rfl ?_
  rw [nI_clamp (by decide), e29]
  refine J_if_ne (tgt := 20) (n := 10) dX7_nextDoor_7 (by decide) rfl (fun c_7 => ?_) (fun c_7 => ?_)
  · have c0 : 0 < p.2.2 7 := by
      rw [nI_k0 (by omega)] at c_7
      omega
    have hmod := Nat.mod_lt (p.2.2 10) c0
    rw [if_pos c0] at hq
    refine J_aload_n (i := 0) (n := 21) dX7_nextDoor_20 rfl rfl rfl ?_
    refine T_getO (k := 1) (n := 24) wk_X7 dX7_nextDoor_21 wf_X7_13 (by decide) (by first | assumption | decide) rfl rfl ?_
    refine J_bipush (n := 26) dX7_nextDoor_24 kB_30 rfl ?_
    refine J_aload_n (i := 0) (n := 27) dX7_nextDoor_26 rfl rfl rfl ?_
    refine T_getO (k := 1) (n := 30) wk_X7 dX7_nextDoor_27 wf_X7_13 (by decide) (by first | assumption | decide) rfl rfl ?_
    refine J_bipush (n := 32) dX7_nextDoor_30 kB_37 rfl ?_
    refine T_ialdO (c := 7) (k := 1) (N := 57) (n := 33) dX7_nextDoor_32 (by decide) (by first | assumption | decide) rfl (vp_in_nI (by decide) (by decide)) rfl ?_
    refine J_aload_n (i := 0) (n := 34) dX7_nextDoor_33 rfl rfl rfl ?_
    refine T_getO (k := 1) (n := 37) wk_X7 dX7_nextDoor_34 wf_X7_13 (by decide) (by first | assumption | decide) rfl rfl ?_
    refine J_bipush (n := 39) dX7_nextDoor_37 kB_29 rfl ?_
    refine T_ialdO (c := 7) (k := 1) (N := 57) (n := 40) dX7_nextDoor_39 (by decide) (by first | assumption | decide) rfl (vp_in_nI (by decide) (by decide)) rfl ?_
    refine J_irem (n := 41) dX7_nextDoor_40 (by rw [nI_clamp (by decide), e29]; exact c_7) rfl ?_
    rw [nI_clamp (by decide), nI_clamp (by decide), e37, e29, pk_rem (by omega) c0 (by omega)]
    refine J_iadd (n := 42) dX7_nextDoor_41 rfl ?_
    rw [nI_add]
    refine T_ialdO (c := 7) (k := 1) (N := 57) (n := 43) dX7_nextDoor_42 (by decide) (by first | assumption | decide) rfl (vp_in_nI (by omega) (by decide)) rfl ?_
    try rw [nI_clamp (by omega), er _ hmod]
    refine J_iret dX7_nextDoor_43 rfl (kN_i _) ?_
    first | exact hq | (rw [nI_k0 (by omega)] at c_7; rw [if_neg (by omega)] at hq; exact hq)
  · refine J_aload_n (i := 0) (n := 11) dX7_nextDoor_10 rfl rfl rfl ?_
    refine T_getO (k := 1) (n := 14) wk_X7 dX7_nextDoor_11 wf_X7_13 (by decide) (by first | assumption | decide) rfl rfl ?_
    refine J_bipush (n := 16) dX7_nextDoor_14 kB_28 rfl ?_
    refine T_ialdO (c := 7) (k := 1) (N := 57) (n := 17) dX7_nextDoor_16 (by decide) (by first | assumption | decide) rfl (vp_in_nI (by decide) (by decide)) rfl ?_
    rw [nI_clamp (by decide), e28]
    refine J_goto (tgt := 43) dX7_nextDoor_17 (by decide) ?_
    try rw [nI_clamp (by omega), er _ hmod]
    refine J_iret dX7_nextDoor_43 rfl (kN_i _) ?_
    first | exact hq | (rw [nI_k0 (by omega)] at c_7; rw [if_neg (by omega)] at hq; exact hq)

set_option maxHeartbeats 4000000 in
set_option maxRecDepth 100000 in
theorem c_M_daysGo {G : gx_G} {σ : gs_S} {Q : Option Value → gx_Hp → Prop} {p : pw} {v : gs_Ob} (d : Nat) {n : Nat} (hm : mN v p) (hO : pOk p) (hn : p.2.2 10 + n < 2 ^ 30) (hq : ∀ v1, mN v1 (pw_days p n) → mE v v1 → Q none (hp G (gs_set σ 7 0 v1))) : gx_K G yX7_daysGo mX7_daysGo (d + 6) 0 0 [.ref (gs_a G 7 0 0), .int (nI n)] (hp G (gs_set σ 7 0 v)) Q := by
  have loop : ∀ k m p1 v1, n - m < k → m ≤ n → mN v1 p1 → pOk p1 → mE v v1 → p1.2.2 10 + (n - m) < 2 ^ 30 → pw_days p1 (n - m) = pw_days p n → gx_J G mX7_daysGo (d + 6) 0 0 Q 2 [(0, .ref (gs_a G 7 0 0)), (1, .int (nI n)), (2, .int (nI m))] [] (hp G (gs_set σ 7 0 v1)) := by
    intro k
    induction k with
    | zero => intros; exact absurd (by assumption) (Nat.not_lt_zero _)
    | succ k ih =>
      intro m p1 v1 hk hm1 hv1 hO1 hE hd1 hp1
      have hv0 : mN (gs_set σ 7 0 v1 7 0) p1 := by rw [gs_same]; exact hv1
      refine J_iload_n (i := 2) (n := 3) dX7_daysGo_2 rfl rfl rfl ?_
      refine J_iload_n (i := 1) (n := 4) dX7_daysGo_3 rfl rfl rfl ?_
      refine J_icmp_ge (tgt := 21) (n := 7) dX7_daysGo_4 (by decide) rfl (fun c_4 => ?_) (fun c_4 => ?_)
      · refine J_vret dX7_daysGo_21 rfl ?_
        refine hq _ ?_ hE
        rw [nI_leI (by omega) (by omega)] at c_4
        have em : m = n := by omega
        subst em
        rw [← hp1, Nat.sub_self]
        exact hv1
      · rw [nI_leI (by omega) (by omega)] at c_4
        refine J_aload_n (i := 0) (n := 8) dX7_daysGo_7 rfl rfl rfl ?_
        refine J_aload_n (i := 0) (n := 9) dX7_daysGo_8 rfl rfl rfl ?_
        refine J_callVr (n := 12) wS_X7_nextDoor (c_M_nextDoor (d + 5) hv0 hO1 (by omega) ⟨rfl, rfl⟩) dX7_daysGo_9 wm_X7_182 ⟨wM_X7_nextDoor, wV_X7_nextDoor⟩ rfl (T_recv (by decide) (by first | assumption | decide)) rfl rfl (Nat.le_of_ble_eq_true rfl) rfl ?_
        refine J_callVx (n := 15) wS_X7_dayGoesAt (c_M_dayGoesAt (Q := fun r h => r = none ∧ ∃ v2, mN v2 (pw_day p1 (pw_next p1)) ∧ mE v1 v2 ∧ h = hp G (gs_set σ 7 0 v2)) d hv1 hO1 (pw_next_le hO1) (by omega) (fun v2 h2 h3 => ⟨rfl, v2, h2, h3, rfl⟩)) dX7_daysGo_12 wm_X7_185 ⟨wM_X7_dayGoesAt, wV_X7_dayGoesAt⟩ rfl (T_recv (by decide) (by first | assumption | decide)) rfl rfl (Nat.le_of_ble_eq_true rfl) rfl (fun r h1 hq1 => ?_)
        obtain ⟨rfl, v2, hm2, hE2, rfl⟩ := hq1
        refine J_inc (i := 2) (n := 18) (lv' := [(0, _), (1, _), (2, _)]) dX7_daysGo_15 rfl (by decide) rfl rfl ?_
        refine J_goto (tgt := 2) dX7_daysGo_18 (by decide) ?_
        refine ih (m + 1) _ v2 (by omega) (by omega) hm2 (pw_day_ok hO1 (pw_next_le hO1)) (hE.tr hE2) (by rw [pw_day_day]; omega) ?_
        rw [← hp1, show n - m = (n - (m + 1)) + 1 by omega]
        rfl
  refine gx_K.of' (lv := [(0, _), (1, _)]) (by decide) rfl (by decide) (Nat.le_of_ble_eq_true rfl) rfl ?_
  refine J_iconst (n := 1) dX7_daysGo_0 kI_0 rfl ?_
  refine J_istore_n (i := 2) (n := 2) (lv' := [(0, _), (1, _), (2, _)]) dX7_daysGo_1 rfl (by decide) rfl rfl ?_
  exact loop (n + 1) 0 p v (by omega) (by omega) hm hO (mE.rf _) (by omega) rfl

set_option maxHeartbeats 4000000 in
set_option maxRecDepth 100000 in
theorem c_M_starts {G : gx_G} {σ : gs_S} {Q : Option Value → gx_Hp → Prop} {v : gs_Ob} (d : Nat) (hq : ∀ v1 : gs_Ob, (∀ q, q < 57 → v1.1 1 q = v.1 0 q) → (∀ q, 57 ≤ q → v1.1 1 q = v.1 1 q) → (∀ k, k ≠ 1 → v1.1 k = v.1 k) → v1.2 = v.2 → Q none (hp G (gs_set σ 7 0 v1))) : gx_K G yX7_starts mX7_starts d 0 0 [.ref (gs_a G 7 0 0)] (hp G (gs_set σ 7 0 v)) Q := by
  have loop : ∀ n g (v1 : gs_Ob), 57 - g < n → g ≤ 57 → (∀ q, q < g → v1.1 1 q = v.1 0 q) → (∀ q, g ≤ q → v1.1 1 q = v.1 1 q) → (∀ k, k ≠ 1 → v1.1 k = v.1 k) → v1.2 = v.2 → gx_J G mX7_starts d 0 0 Q 2 [(0, .ref (gs_a G 7 0 0)), (1, .int (nI g))] [] (hp G (gs_set σ 7 0 v1)) := by
    intro n
    induction n with
    | zero => intros; exact absurd (by assumption) (Nat.not_lt_zero _)
    | succ n ih =>
      intro g v1 hn hg ha hb hc he
      have es : v1.1 0 = v.1 0 := hc 0 (by decide)
      refine J_iload_n (i := 1) (n := 3) dX7_starts_2 rfl rfl rfl ?_
      refine J_bipush (n := 5) dX7_starts_3 kB_57 rfl ?_
      refine J_icmp_ge (tgt := 26) (n := 8) dX7_starts_5 (by decide) rfl (fun c_5 => ?_) (fun c_5 => ?_)
      · refine J_vret dX7_starts_26 rfl ?_
        rw [nI_leI (by omega) (by omega)] at c_5
        exact hq v1 (fun q hq1 => ha q (by omega)) (fun q hq1 => hb q (by omega)) hc he
      · rw [nI_leI (by omega) (by omega)] at c_5
        refine J_aload_n (i := 0) (n := 9) dX7_starts_8 rfl rfl rfl ?_
        refine T_get (k := 1) (n := 12) wk_X7 dX7_starts_9 wf_X7_13 (by decide) (by first | assumption | decide) rfl rfl ?_
        refine J_iload_n (i := 1) (n := 13) dX7_starts_12 rfl rfl rfl ?_
        refine J_aload_n (i := 0) (n := 14) dX7_starts_13 rfl rfl rfl ?_
        refine T_get (k := 0) (n := 17) wk_X7 dX7_starts_14 wf_X7_7 (by decide) (by first | assumption | decide) rfl rfl ?_
        refine J_iload_n (i := 1) (n := 18) dX7_starts_17 rfl rfl rfl ?_
        refine T_iald (c := 7) (k := 0) (N := 171) (n := 19) dX7_starts_18 (by decide) (by first | assumption | decide) rfl (vp_in_nI (by omega) (by decide)) rfl ?_
        rw [nI_clamp (by omega), es]
        refine T_iast (c := 7) (k := 1) (N := 57) (n := 20) dX7_starts_19 (by decide) (by first | assumption | decide) (fun _ => rfl) (vp_in_nI (by omega) (by decide)) rfl ?_
        rw [nI_clamp (by omega)]
        refine J_inc (i := 1) (n := 23) (lv' := [(0, _), (1, _)]) dX7_starts_20 rfl (by decide) rfl rfl ?_
        refine J_goto (tgt := 2) dX7_starts_23 (by decide) ?_
        refine ih (g + 1) _ (by omega) (by omega) (fun q hq1 => ?_) (fun q hq1 => ?_) (fun k hk => ?_) he
        · show va_up v1.1 1 (upd (v1.1 1) g _) 1 q = _
          by_cases e : q = g
          · subst e; simp [va_up, upd]
          · simp [va_up, upd, e]; exact ha q (by omega)
        · show va_up v1.1 1 (upd (v1.1 1) g _) 1 q = _
          have e : q ≠ g := by omega
          simp [va_up, upd, e]; exact hb q (by omega)
        · show va_up v1.1 1 (upd (v1.1 1) g _) k = v.1 k
          simp [va_up, hk]; exact hc k hk
  refine gx_K.of' (lv := [(0, _)]) (by decide) rfl (by decide) (Nat.le_of_ble_eq_true rfl) rfl ?_
  refine J_iconst (n := 1) dX7_starts_0 kI_0 rfl ?_
  refine J_istore_n (i := 1) (n := 2) (lv' := [(0, _), (1, _)]) dX7_starts_1 rfl (by decide) rfl rfl ?_
  exact loop 58 0 v (by omega) (by omega) (fun q h => absurd h (Nat.not_lt_zero _)) (fun _ _ => rfl) (fun _ _ => rfl) rfl

set_option maxHeartbeats 4000000 in
set_option maxRecDepth 100000 in
theorem c_M_settles {G : gx_G} {σ : gs_S} {Q : Option Value → gx_Hp → Prop} {v : gs_Ob} (d : Nat) (hq : ∀ v1 : gs_Ob, (∀ q, q < 57 → v1.1 0 q = v.1 1 q) → (∀ q, 57 ≤ q → v1.1 0 q = v.1 0 q) → (∀ k, k ≠ 0 → v1.1 k = v.1 k) → v1.2 = v.2 → Q none (hp G (gs_set σ 7 0 v1))) : gx_K G yX7_settles mX7_settles d 0 0 [.ref (gs_a G 7 0 0)] (hp G (gs_set σ 7 0 v)) Q := by
  have loop : ∀ n g (v1 : gs_Ob), 57 - g < n → g ≤ 57 → (∀ q, q < g → v1.1 0 q = v.1 1 q) → (∀ q, g ≤ q → v1.1 0 q = v.1 0 q) → (∀ k, k ≠ 0 → v1.1 k = v.1 k) → v1.2 = v.2 → gx_J G mX7_settles d 0 0 Q 2 [(0, .ref (gs_a G 7 0 0)), (1, .int (nI g))] [] (hp G (gs_set σ 7 0 v1)) := by
    intro n
    induction n with
    | zero => intros; exact absurd (by assumption) (Nat.not_lt_zero _)
    | succ n ih =>
      intro g v1 hn hg ha hb hc he
      have es : v1.1 1 = v.1 1 := hc 1 (by decide)
      refine J_iload_n (i := 1) (n := 3) dX7_settles_2 rfl rfl rfl ?_
      refine J_bipush (n := 5) dX7_settles_3 kB_57 rfl ?_
      refine J_icmp_ge (tgt := 26) (n := 8) dX7_settles_5 (by decide) rfl (fun c_5 => ?_) (fun c_5 => ?_)
      · refine J_vret dX7_settles_26 rfl ?_
        rw [nI_leI (by omega) (by omega)] at c_5
        exact hq v1 (fun q hq1 => ha q (by omega)) (fun q hq1 => hb q (by omega)) hc he
      · rw [nI_leI (by omega) (by omega)] at c_5
        refine J_aload_n (i := 0) (n := 9) dX7_settles_8 rfl rfl rfl ?_
        refine T_get (k := 0) (n := 12) wk_X7 dX7_settles_9 wf_X7_7 (by decide) (by first | assumption | decide) rfl rfl ?_
        refine J_iload_n (i := 1) (n := 13) dX7_settles_12 rfl rfl rfl ?_
        refine J_aload_n (i := 0) (n := 14) dX7_settles_13 rfl rfl rfl ?_
        refine T_get (k := 1) (n := 17) wk_X7 dX7_settles_14 wf_X7_13 (by decide) (by first | assumption | decide) rfl rfl ?_
        refine J_iload_n (i := 1) (n := 18) dX7_settles_17 rfl rfl rfl ?_
        refine T_iald (c := 7) (k := 1) (N := 57) (n := 19) dX7_settles_18 (by decide) (by first | assumption | decide) rfl (vp_in_nI (by omega) (by decide)) rfl ?_
        rw [nI_clamp (by omega), es]
        refine T_iast (c := 7) (k := 0) (N := 171) (n := 20) dX7_settles_19 (by decide) (by first | assumption | decide) (fun _ => rfl) (vp_in_nI (by omega) (by decide)) rfl ?_
        rw [nI_clamp (by omega)]
        refine J_inc (i := 1) (n := 23) (lv' := [(0, _), (1, _)]) dX7_settles_20 rfl (by decide) rfl rfl ?_
        refine J_goto (tgt := 2) dX7_settles_23 (by decide) ?_
        refine ih (g + 1) _ (by omega) (by omega) (fun q hq1 => ?_) (fun q hq1 => ?_) (fun k hk => ?_) he
        · show va_up v1.1 0 (upd (v1.1 0) g _) 0 q = _
          by_cases e : q = g
          · subst e; simp [va_up, upd]
          · simp [va_up, upd, e]; exact ha q (by omega)
        · show va_up v1.1 0 (upd (v1.1 0) g _) 0 q = _
          have e : q ≠ g := by omega
          simp [va_up, upd, e]; exact hb q (by omega)
        · show va_up v1.1 0 (upd (v1.1 0) g _) k = v.1 k
          simp [va_up, hk]; exact hc k hk
  refine gx_K.of' (lv := [(0, _)]) (by decide) rfl (by decide) (Nat.le_of_ble_eq_true rfl) rfl ?_
  refine J_iconst (n := 1) dX7_settles_0 kI_0 rfl ?_
  refine J_istore_n (i := 1) (n := 2) (lv' := [(0, _), (1, _)]) dX7_settles_1 rfl (by decide) rfl rfl ?_
  exact loop 58 0 v (by omega) (by omega) (fun q h => absurd h (Nat.not_lt_zero _)) (fun _ _ => rfl) (fun _ _ => rfl) rfl

