theorem grb_of {w x : Int32} (h : grb w x = true) : ∃ k z, k ≤ 2 ∧ z ≤ 20 ∧ w = nI k ∧ x = nI z ∧ (k = 0 → z ≤ 3) ∧ (k = 1 → z ≤ 11) := by
  unfold grb at h
  by_cases e0 : w = 0
  · rw [if_pos e0] at h
    obtain ⟨z, hz, rfl⟩ := ix_of h (by decide)
    exact ⟨0, z, by decide, by omega, e0, rfl, fun _ => hz, fun q => absurd q (by decide)⟩
  · rw [if_neg e0] at h
    by_cases e1 : w = 1
    · rw [if_pos e1] at h
      obtain ⟨z, hz, rfl⟩ := ix_of h (by decide)
      exact ⟨1, z, by decide, by omega, e1, rfl, fun q => absurd q (by decide), fun _ => hz⟩
    · rw [if_neg e1] at h
      by_cases e2 : w = 2
      · rw [if_pos e2] at h
        obtain ⟨z, hz, rfl⟩ := ix_of h (by decide)
        exact ⟨2, z, by decide, by omega, e2, rfl, fun q => absurd q (by decide), fun q => absurd q (by decide)⟩
      · rw [if_neg e2] at h
        cases h
set_option maxHeartbeats 4000000 in
set_option maxRecDepth 100000 in
theorem c_N_alter {G : gx_G} {σ : gs_S} {Q : Option Value → gx_Hp → Prop} {S : pS} {v : gs_Ob} (d : Nat) (g w x : Int32) (hS : SOk S) (hm : mR v S) (hq : ∀ v1, mR v1 (sp_alter S g w x).2 → Q (some (.int (sp_alter S g w x).1)) (hp G (gs_set σ 7 0 v1))) : gx_K G yX7_alter mX7_alter (d + 12) 0 0 [.ref (gs_a G 7 0 0), .int g, .int w, .int x] (hp G (gs_set σ 7 0 v)) Q := by
  obtain ⟨⟨ha, hsn, hgl⟩, hkm, htp, hft, hsh⟩ := id hm
  have hO := hS.1.1
  have hB := hO.aB
  have h4 : S.1.1.2.2 6 ≤ 4 := hO.2.2.2.2.1
  have h6 : S.1.1.2.2 7 ≤ 6 := hO.2.2.2.2.2.1
  have hm11 : S.1.1.2.2 8 ≤ 11 := hO.2.2.2.2.2.2.1
  have hn9 : S.1.1.2.2 9 ≤ 9999 := hO.2.2.2.2.2.2.2
  have hd9 : S.1.1.2.2 10 ≤ 999 := hS.1.2.2.1
  have h160 : S.2.2.2.1.2 ≤ 160 := hS.2.2.1.1
  have e28 := ha.2.2.2.1
  have e29 := ha.2.2.2.2.1
  have e36 := ha.2.2.2.2.2.1
  have e37 := ha.2.2.2.2.2.2
  have g0 : gs_set σ 7 0 v 7 0 = v := gs_same _ _ _ _
  have hgl0 : (gs_set σ 7 0 v 7 0).2.1 3 = nI (S.1.1.2.2 6) := by rw [g0]; exact hgl
  have ha0 : aR ((gs_set σ 7 0 v 7 0).1 0) S.1.1 := by rw [g0]; exact ha
  refine gx_K.of' (lv := [(0, _), (1, _), (2, _), (3, _)]) (by decide) rfl (by decide) (Nat.le_of_ble_eq_true rfl) rfl ?_
  refine J_iload_n (i := 2) (n := 1) dX7_alter_0 rfl rfl rfl ?_
  refine J_if_ne (tgt := 16) (n := 4) dX7_alter_1 (by decide) rfl (fun c_1 => ?_) (fun c_1 => ?_)
  · refine J_iload_n (i := 2) (n := 17) dX7_alter_16 rfl rfl rfl ?_
    refine J_iconst (n := 18) dX7_alter_17 kI_1 rfl ?_
    refine J_icmp_ne (tgt := 28) (n := 21) dX7_alter_18 (by decide) rfl (fun c_18 => ?_) (fun c_18 => ?_)
    · refine J_iload_n (i := 2) (n := 29) dX7_alter_28 rfl rfl rfl ?_
      refine J_iconst (n := 30) dX7_alter_29 kI_2 rfl ?_
      refine J_icmp_ne (tgt := 49) (n := 33) dX7_alter_30 (by decide) rfl (fun c_30 => ?_) (fun c_30 => ?_)
      · refine J_iconst (n := 50) dX7_alter_49 kI_0 rfl ?_
        first
        | rw [show nI (ix_in x 3).toNat = nI (grb w x).toNat from by rw [grb, if_pos c_1]]
        | rw [show nI (ix_in x 11).toNat = nI (grb w x).toNat from by rw [grb, if_neg c_1, if_pos (show w = 1 from c_18)]]
        | rw [show nI 1 = nI (grb w x).toNat from by rw [grb, if_neg c_1, if_neg (show ¬ w = 1 from c_18), if_pos (show w = 2 from c_30), (nb_t _).mp c_42]; rfl]
        | rw [show nI 0 = nI (grb w x).toNat from by rw [grb, if_neg c_1, if_neg (show ¬ w = 1 from c_18), if_pos (show w = 2 from c_30), (nb_0 _).mp c_42]; rfl]
        | rw [show nI 0 = nI (grb w x).toNat from by rw [grb, if_neg c_1, if_neg (show ¬ w = 1 from c_18), if_neg (show ¬ w = 2 from c_30)]; rfl]
        refine J_istore (i := 4) (n := 52) (lv' := [(0, _), (1, _), (2, _), (3, _), (4, _)]) dX7_alter_50 (by decide) rfl rfl ?_
        refine J_aload_n (i := 0) (n := 53) dX7_alter_52 rfl rfl rfl ?_
        refine J_iload_n (i := 1) (n := 54) dX7_alter_53 rfl rfl rfl ?_
        refine J_callVr (n := 57) wS_X7_isGlove (c_M_isGlove (d + 10) g (S.1.1.2.2 6) hgl0 (by omega) ⟨rfl, rfl⟩) dX7_alter_54 wm_X7_210 ⟨wM_X7_isGlove, wV_X7_isGlove⟩ rfl (T_recv (by decide) (by first | assumption | decide)) rfl rfl (Nat.le_of_ble_eq_true rfl) rfl ?_
        refine J_if_eq (tgt := 65) (n := 60) dX7_alter_57 (by decide) rfl (fun c_57 => ?_) (fun c_57 => ?_)
        · refine J_iconst (n := 66) dX7_alter_65 kI_m1 rfl ?_
          refine J_iret dX7_alter_66 rfl (kN_i _) ?_
          have hn1 : sp_no S g w x = -1 := by
            unfold sp_no
            rw [if_neg (by first | (rw [nb_0] at c_57; rw [show isG S g = false from c_57, Bool.false_and]; decide) | (rw [nb_0] at c_62; rw [c_62, Bool.and_false]; decide))]
          unfold sp_alter at hq
          rw [hn1, if_neg (by decide +kernel)] at hq
          exact hq v hm
        · refine J_iload (i := 4) (n := 62) dX7_alter_60 rfl rfl ?_
          refine J_if_ne (tgt := 67) (n := 65) dX7_alter_62 (by decide) rfl (fun c_62 => ?_) (fun c_62 => ?_)
          · rw [nb_t] at c_57 c_62
            obtain ⟨j, hj, rfl⟩ := isG_of (S := S) c_57 hO
            obtain ⟨k, z, hk, hz, rfl, rfl, hk0, hk1⟩ := grb_of c_62
            have hno : sp_no S (nI j) (nI k) (nI z) = (if nI k = 1 ∧ S.1.1.2.1 j = true then -2 else nI 0) := by
              unfold sp_no
              rw [if_pos (by rw [show isG S (nI j) = true from c_57, c_62]; rfl), nat_nI (by omega)]
            refine J_iload_n (i := 2) (n := 68) dX7_alter_67 rfl rfl rfl ?_
            refine J_iconst (n := 69) dX7_alter_68 kI_1 rfl ?_
            refine J_icmp_ne (tgt := 85) (n := 72) dX7_alter_69 (by decide) rfl (fun c_69 => ?_) (fun c_69 => ?_)
            · have hn0 : sp_no S (nI j) (nI k) (nI z) = nI 0 := by
                rw [hno, if_neg]
                rintro ⟨q1, q2⟩
                first
                | exact c_69 q1
                | (rw [nb_0, q2] at c_77; cases c_77)
              unfold sp_alter at hq
              rw [if_pos hn0, nat_nI (by omega), nat_nI (by omega), nat_nI (by omega)] at hq
              have hvk : v.1 0 (12 + 4 * j + k) = nI (S.1.1.1 (k + 1) j) := by
                obtain ⟨n0, n1, n2, n3⟩ := ha.2.1 j hj
                rcases (show k = 0 ∨ k = 1 ∨ k = 2 by omega) with rfl | rfl | rfl
                · exact n0
                · refine n1 ?_
                  cases e : S.1.1.2.1 j with
                  | false => rfl
                  | true => rw [hno, if_pos ⟨rfl, e⟩] at hn0; exact absurd hn0 (by decide +kernel)
                · exact n2
              refine J_aload_n (i := 0) (n := 86) dX7_alter_85 rfl rfl rfl ?_
              refine J_bipush (n := 88) dX7_alter_86 kB_12 rfl ?_
              refine J_iconst (n := 89) dX7_alter_88 kI_4 rfl ?_
              refine J_iload_n (i := 1) (n := 90) dX7_alter_89 rfl rfl rfl ?_
              refine J_imul (n := 91) dX7_alter_90 rfl ?_
              refine J_iadd (n := 92) dX7_alter_91 rfl ?_
              refine J_iload_n (i := 2) (n := 93) dX7_alter_92 rfl rfl rfl ?_
              refine J_iadd (n := 94) dX7_alter_93 rfl ?_
              rw [pk_mul, nI_add, nI_add]
              refine J_iload_n (i := 3) (n := 95) dX7_alter_94 rfl rfl rfl ?_
              refine J_callVr (n := 98) wS_X7_becomes (c_M_becomes (d + 11) _ (by omega) ⟨rfl, rfl⟩) dX7_alter_95 wm_X7_229 ⟨wM_X7_becomes, wV_X7_becomes⟩ rfl (T_recv (by decide) (by first | assumption | decide)) rfl rfl (Nat.le_of_ble_eq_true rfl) rfl ?_
              refine J_iret dX7_alter_98 rfl (kN_i _) ?_
              first
              | (rw [hvk]; exact hq _ (hm.put hS (by omega) (ha.part hB z hj hk) rfl))
              | (rw [nb_t] at c_77
                 rw [if_pos ⟨show nI k = 1 from c_69, c_77⟩] at hno
                 unfold sp_alter at hq
                 rw [hno, if_neg (by decide +kernel)] at hq
                 exact hq v hm)
            · refine J_aload_n (i := 0) (n := 73) dX7_alter_72 rfl rfl rfl ?_
              refine J_iload_n (i := 1) (n := 74) dX7_alter_73 rfl rfl rfl ?_
              refine J_callVr (n := 77) wS_X7_wasPaired (c_M_wasPaired (d + 11) ha0 hB hj ⟨rfl, rfl⟩) dX7_alter_74 wm_X7_226 ⟨wM_X7_wasPaired, wV_X7_wasPaired⟩ rfl (T_recv (by decide) (by first | assumption | decide)) rfl rfl (Nat.le_of_ble_eq_true rfl) rfl ?_
              refine J_if_eq (tgt := 85) (n := 80) dX7_alter_77 (by decide) rfl (fun c_77 => ?_) (fun c_77 => ?_)
              · have hn0 : sp_no S (nI j) (nI k) (nI z) = nI 0 := by
                  rw [hno, if_neg]
                  rintro ⟨q1, q2⟩
                  first
                  | exact c_69 q1
                  | (rw [nb_0, q2] at c_77; cases c_77)
                unfold sp_alter at hq
                rw [if_pos hn0, nat_nI (by omega), nat_nI (by omega), nat_nI (by omega)] at hq
                have hvk : v.1 0 (12 + 4 * j + k) = nI (S.1.1.1 (k + 1) j) := by
                  obtain ⟨n0, n1, n2, n3⟩ := ha.2.1 j hj
                  rcases (show k = 0 ∨ k = 1 ∨ k = 2 by omega) with rfl | rfl | rfl
                  · exact n0
                  · refine n1 ?_
                    cases e : S.1.1.2.1 j with
                    | false => rfl
                    | true => rw [hno, if_pos ⟨rfl, e⟩] at hn0; exact absurd hn0 (by decide +kernel)
                  · exact n2
                refine J_aload_n (i := 0) (n := 86) dX7_alter_85 rfl rfl rfl ?_
                refine J_bipush (n := 88) dX7_alter_86 kB_12 rfl ?_
                refine J_iconst (n := 89) dX7_alter_88 kI_4 rfl ?_
                refine J_iload_n (i := 1) (n := 90) dX7_alter_89 rfl rfl rfl ?_
                refine J_imul (n := 91) dX7_alter_90 rfl ?_
                refine J_iadd (n := 92) dX7_alter_91 rfl ?_
                refine J_iload_n (i := 2) (n := 93) dX7_alter_92 rfl rfl rfl ?_
                refine J_iadd (n := 94) dX7_alter_93 rfl ?_
                rw [pk_mul, nI_add, nI_add]
                refine J_iload_n (i := 3) (n := 95) dX7_alter_94 rfl rfl rfl ?_
                refine J_callVr (n := 98) wS_X7_becomes (c_M_becomes (d + 11) _ (by omega) ⟨rfl, rfl⟩) dX7_alter_95 wm_X7_229 ⟨wM_X7_becomes, wV_X7_becomes⟩ rfl (T_recv (by decide) (by first | assumption | decide)) rfl rfl (Nat.le_of_ble_eq_true rfl) rfl ?_
                refine J_iret dX7_alter_98 rfl (kN_i _) ?_
                first
                | (rw [hvk]; exact hq _ (hm.put hS (by omega) (ha.part hB z hj hk) rfl))
                | (rw [nb_t] at c_77
                   rw [if_pos ⟨show nI k = 1 from c_69, c_77⟩] at hno
                   unfold sp_alter at hq
                   rw [hno, if_neg (by decide +kernel)] at hq
                   exact hq v hm)
              · refine J_bipush (n := 82) dX7_alter_80 kB_m2 rfl ?_
                refine J_goto (tgt := 98) dX7_alter_82 (by decide) ?_
                refine J_iret dX7_alter_98 rfl (kN_i _) ?_
                first
                | (rw [hvk]; exact hq _ (hm.put hS (by omega) (ha.part hB z hj hk) rfl))
                | (rw [nb_t] at c_77
                   rw [if_pos ⟨show nI k = 1 from c_69, c_77⟩] at hno
                   unfold sp_alter at hq
                   rw [hno, if_neg (by decide +kernel)] at hq
                   exact hq v hm)
          · refine J_iconst (n := 66) dX7_alter_65 kI_m1 rfl ?_
            refine J_iret dX7_alter_66 rfl (kN_i _) ?_
            have hn1 : sp_no S g w x = -1 := by
              unfold sp_no
              rw [if_neg (by first | (rw [nb_0] at c_57; rw [show isG S g = false from c_57, Bool.false_and]; decide) | (rw [nb_0] at c_62; rw [c_62, Bool.and_false]; decide))]
            unfold sp_alter at hq
            rw [hn1, if_neg (by decide +kernel)] at hq
            exact hq v hm
      · refine J_iload_n (i := 3) (n := 34) dX7_alter_33 rfl rfl rfl ?_
        refine J_i2l (n := 35) dX7_alter_34 rfl ?_
        refine J_lconst (n := 36) dX7_alter_35 kL_0 rfl ?_
        refine J_ldc2 (n := 39) dX7_alter_36 wd_X7_224 rfl ?_
        refine J_callSr (n := 42) wS_X7_in (c_M_in (d + 11) x 20 (by decide) ⟨rfl, rfl⟩) dX7_alter_39 wm_X7_72 wT_X7_in rfl rfl (Nat.le_of_ble_eq_true rfl) rfl ?_
        refine J_if_eq (tgt := 49) (n := 45) dX7_alter_42 (by decide) rfl (fun c_42 => ?_) (fun c_42 => ?_)
        · refine J_iconst (n := 50) dX7_alter_49 kI_0 rfl ?_
          first
          | rw [show nI (ix_in x 3).toNat = nI (grb w x).toNat from by rw [grb, if_pos c_1]]
          | rw [show nI (ix_in x 11).toNat = nI (grb w x).toNat from by rw [grb, if_neg c_1, if_pos (show w = 1 from c_18)]]
          | rw [show nI 1 = nI (grb w x).toNat from by rw [grb, if_neg c_1, if_neg (show ¬ w = 1 from c_18), if_pos (show w = 2 from c_30), (nb_t _).mp c_42]; rfl]
          | rw [show nI 0 = nI (grb w x).toNat from by rw [grb, if_neg c_1, if_neg (show ¬ w = 1 from c_18), if_pos (show w = 2 from c_30), (nb_0 _).mp c_42]; rfl]
          | rw [show nI 0 = nI (grb w x).toNat from by rw [grb, if_neg c_1, if_neg (show ¬ w = 1 from c_18), if_neg (show ¬ w = 2 from c_30)]; rfl]
          refine J_istore (i := 4) (n := 52) (lv' := [(0, _), (1, _), (2, _), (3, _), (4, _)]) dX7_alter_50 (by decide) rfl rfl ?_
          refine J_aload_n (i := 0) (n := 53) dX7_alter_52 rfl rfl rfl ?_
          refine J_iload_n (i := 1) (n := 54) dX7_alter_53 rfl rfl rfl ?_
          refine J_callVr (n := 57) wS_X7_isGlove (c_M_isGlove (d + 10) g (S.1.1.2.2 6) hgl0 (by omega) ⟨rfl, rfl⟩) dX7_alter_54 wm_X7_210 ⟨wM_X7_isGlove, wV_X7_isGlove⟩ rfl (T_recv (by decide) (by first | assumption | decide)) rfl rfl (Nat.le_of_ble_eq_true rfl) rfl ?_
          refine J_if_eq (tgt := 65) (n := 60) dX7_alter_57 (by decide) rfl (fun c_57 => ?_) (fun c_57 => ?_)
          · refine J_iconst (n := 66) dX7_alter_65 kI_m1 rfl ?_
            refine J_iret dX7_alter_66 rfl (kN_i _) ?_
            have hn1 : sp_no S g w x = -1 := by
              unfold sp_no
              rw [if_neg (by first | (rw [nb_0] at c_57; rw [show isG S g = false from c_57, Bool.false_and]; decide) | (rw [nb_0] at c_62; rw [c_62, Bool.and_false]; decide))]
            unfold sp_alter at hq
            rw [hn1, if_neg (by decide +kernel)] at hq
            exact hq v hm
          · refine J_iload (i := 4) (n := 62) dX7_alter_60 rfl rfl ?_
            refine J_if_ne (tgt := 67) (n := 65) dX7_alter_62 (by decide) rfl (fun c_62 => ?_) (fun c_62 => ?_)
            · rw [nb_t] at c_57 c_62
              obtain ⟨j, hj, rfl⟩ := isG_of (S := S) c_57 hO
              obtain ⟨k, z, hk, hz, rfl, rfl, hk0, hk1⟩ := grb_of c_62
              have hno : sp_no S (nI j) (nI k) (nI z) = (if nI k = 1 ∧ S.1.1.2.1 j = true then -2 else nI 0) := by
                unfold sp_no
                rw [if_pos (by rw [show isG S (nI j) = true from c_57, c_62]; rfl), nat_nI (by omega)]
              refine J_iload_n (i := 2) (n := 68) dX7_alter_67 rfl rfl rfl ?_
              refine J_iconst (n := 69) dX7_alter_68 kI_1 rfl ?_
              refine J_icmp_ne (tgt := 85) (n := 72) dX7_alter_69 (by decide) rfl (fun c_69 => ?_) (fun c_69 => ?_)
              · have hn0 : sp_no S (nI j) (nI k) (nI z) = nI 0 := by
                  rw [hno, if_neg]
                  rintro ⟨q1, q2⟩
                  first
                  | exact c_69 q1
                  | (rw [nb_0, q2] at c_77; cases c_77)
                unfold sp_alter at hq
                rw [if_pos hn0, nat_nI (by omega), nat_nI (by omega), nat_nI (by omega)] at hq
                have hvk : v.1 0 (12 + 4 * j + k) = nI (S.1.1.1 (k + 1) j) := by
                  obtain ⟨n0, n1, n2, n3⟩ := ha.2.1 j hj
                  rcases (show k = 0 ∨ k = 1 ∨ k = 2 by omega) with rfl | rfl | rfl
                  · exact n0
                  · refine n1 ?_
                    cases e : S.1.1.2.1 j with
                    | false => rfl
                    | true => rw [hno, if_pos ⟨rfl, e⟩] at hn0; exact absurd hn0 (by decide +kernel)
                  · exact n2
                refine J_aload_n (i := 0) (n := 86) dX7_alter_85 rfl rfl rfl ?_
                refine J_bipush (n := 88) dX7_alter_86 kB_12 rfl ?_
                refine J_iconst (n := 89) dX7_alter_88 kI_4 rfl ?_
                refine J_iload_n (i := 1) (n := 90) dX7_alter_89 rfl rfl rfl ?_
                refine J_imul (n := 91) dX7_alter_90 rfl ?_
                refine J_iadd (n := 92) dX7_alter_91 rfl ?_
                refine J_iload_n (i := 2) (n := 93) dX7_alter_92 rfl rfl rfl ?_
                refine J_iadd (n := 94) dX7_alter_93 rfl ?_
                rw [pk_mul, nI_add, nI_add]
                refine J_iload_n (i := 3) (n := 95) dX7_alter_94 rfl rfl rfl ?_
                refine J_callVr (n := 98) wS_X7_becomes (c_M_becomes (d + 11) _ (by omega) ⟨rfl, rfl⟩) dX7_alter_95 wm_X7_229 ⟨wM_X7_becomes, wV_X7_becomes⟩ rfl (T_recv (by decide) (by first | assumption | decide)) rfl rfl (Nat.le_of_ble_eq_true rfl) rfl ?_
                refine J_iret dX7_alter_98 rfl (kN_i _) ?_
                first
                | (rw [hvk]; exact hq _ (hm.put hS (by omega) (ha.part hB z hj hk) rfl))
                | (rw [nb_t] at c_77
                   rw [if_pos ⟨show nI k = 1 from c_69, c_77⟩] at hno
                   unfold sp_alter at hq
                   rw [hno, if_neg (by decide +kernel)] at hq
                   exact hq v hm)
              · refine J_aload_n (i := 0) (n := 73) dX7_alter_72 rfl rfl rfl ?_
                refine J_iload_n (i := 1) (n := 74) dX7_alter_73 rfl rfl rfl ?_
                refine J_callVr (n := 77) wS_X7_wasPaired (c_M_wasPaired (d + 11) ha0 hB hj ⟨rfl, rfl⟩) dX7_alter_74 wm_X7_226 ⟨wM_X7_wasPaired, wV_X7_wasPaired⟩ rfl (T_recv (by decide) (by first | assumption | decide)) rfl rfl (Nat.le_of_ble_eq_true rfl) rfl ?_
                refine J_if_eq (tgt := 85) (n := 80) dX7_alter_77 (by decide) rfl (fun c_77 => ?_) (fun c_77 => ?_)
                · have hn0 : sp_no S (nI j) (nI k) (nI z) = nI 0 := by
                    rw [hno, if_neg]
                    rintro ⟨q1, q2⟩
                    first
                    | exact c_69 q1
                    | (rw [nb_0, q2] at c_77; cases c_77)
                  unfold sp_alter at hq
                  rw [if_pos hn0, nat_nI (by omega), nat_nI (by omega), nat_nI (by omega)] at hq
                  have hvk : v.1 0 (12 + 4 * j + k) = nI (S.1.1.1 (k + 1) j) := by
                    obtain ⟨n0, n1, n2, n3⟩ := ha.2.1 j hj
                    rcases (show k = 0 ∨ k = 1 ∨ k = 2 by omega) with rfl | rfl | rfl
                    · exact n0
                    · refine n1 ?_
                      cases e : S.1.1.2.1 j with
                      | false => rfl
                      | true => rw [hno, if_pos ⟨rfl, e⟩] at hn0; exact absurd hn0 (by decide +kernel)
                    · exact n2
                  refine J_aload_n (i := 0) (n := 86) dX7_alter_85 rfl rfl rfl ?_
                  refine J_bipush (n := 88) dX7_alter_86 kB_12 rfl ?_
                  refine J_iconst (n := 89) dX7_alter_88 kI_4 rfl ?_
                  refine J_iload_n (i := 1) (n := 90) dX7_alter_89 rfl rfl rfl ?_
                  refine J_imul (n := 91) dX7_alter_90 rfl ?_
                  refine J_iadd (n := 92) dX7_alter_91 rfl ?_
                  refine J_iload_n (i := 2) (n := 93) dX7_alter_92 rfl rfl rfl ?_
                  refine J_iadd (n := 94) dX7_alter_93 rfl ?_
                  rw [pk_mul, nI_add, nI_add]
                  refine J_iload_n (i := 3) (n := 95) dX7_alter_94 rfl rfl rfl ?_
                  refine J_callVr (n := 98) wS_X7_becomes (c_M_becomes (d + 11) _ (by omega) ⟨rfl, rfl⟩) dX7_alter_95 wm_X7_229 ⟨wM_X7_becomes, wV_X7_becomes⟩ rfl (T_recv (by decide) (by first | assumption | decide)) rfl rfl (Nat.le_of_ble_eq_true rfl) rfl ?_
                  refine J_iret dX7_alter_98 rfl (kN_i _) ?_
                  first
                  | (rw [hvk]; exact hq _ (hm.put hS (by omega) (ha.part hB z hj hk) rfl))
                  | (rw [nb_t] at c_77
                     rw [if_pos ⟨show nI k = 1 from c_69, c_77⟩] at hno
                     unfold sp_alter at hq
                     rw [hno, if_neg (by decide +kernel)] at hq
                     exact hq v hm)
                · refine J_bipush (n := 82) dX7_alter_80 kB_m2 rfl ?_
                  refine J_goto (tgt := 98) dX7_alter_82 (by decide) ?_
                  refine J_iret dX7_alter_98 rfl (kN_i _) ?_
                  first
                  | (rw [hvk]; exact hq _ (hm.put hS (by omega) (ha.part hB z hj hk) rfl))
                  | (rw [nb_t] at c_77
                     rw [if_pos ⟨show nI k = 1 from c_69, c_77⟩] at hno
                     unfold sp_alter at hq
                     rw [hno, if_neg (by decide +kernel)] at hq
                     exact hq v hm)
            · refine J_iconst (n := 66) dX7_alter_65 kI_m1 rfl ?_
              refine J_iret dX7_alter_66 rfl (kN_i _) ?_
              have hn1 : sp_no S g w x = -1 := by
                unfold sp_no
                rw [if_neg (by first | (rw [nb_0] at c_57; rw [show isG S g = false from c_57, Bool.false_and]; decide) | (rw [nb_0] at c_62; rw [c_62, Bool.and_false]; decide))]
              unfold sp_alter at hq
              rw [hn1, if_neg (by decide +kernel)] at hq
              exact hq v hm
        · refine J_iconst (n := 46) dX7_alter_45 kI_1 rfl ?_
          refine J_goto (tgt := 50) dX7_alter_46 (by decide) ?_
          first
          | rw [show nI (ix_in x 3).toNat = nI (grb w x).toNat from by rw [grb, if_pos c_1]]
          | rw [show nI (ix_in x 11).toNat = nI (grb w x).toNat from by rw [grb, if_neg c_1, if_pos (show w = 1 from c_18)]]
          | rw [show nI 1 = nI (grb w x).toNat from by rw [grb, if_neg c_1, if_neg (show ¬ w = 1 from c_18), if_pos (show w = 2 from c_30), (nb_t _).mp c_42]; rfl]
          | rw [show nI 0 = nI (grb w x).toNat from by rw [grb, if_neg c_1, if_neg (show ¬ w = 1 from c_18), if_pos (show w = 2 from c_30), (nb_0 _).mp c_42]; rfl]
          | rw [show nI 0 = nI (grb w x).toNat from by rw [grb, if_neg c_1, if_neg (show ¬ w = 1 from c_18), if_neg (show ¬ w = 2 from c_30)]; rfl]
          refine J_istore (i := 4) (n := 52) (lv' := [(0, _), (1, _), (2, _), (3, _), (4, _)]) dX7_alter_50 (by decide) rfl rfl ?_
          refine J_aload_n (i := 0) (n := 53) dX7_alter_52 rfl rfl rfl ?_
          refine J_iload_n (i := 1) (n := 54) dX7_alter_53 rfl rfl rfl ?_
          refine J_callVr (n := 57) wS_X7_isGlove (c_M_isGlove (d + 10) g (S.1.1.2.2 6) hgl0 (by omega) ⟨rfl, rfl⟩) dX7_alter_54 wm_X7_210 ⟨wM_X7_isGlove, wV_X7_isGlove⟩ rfl (T_recv (by decide) (by first | assumption | decide)) rfl rfl (Nat.le_of_ble_eq_true rfl) rfl ?_
          refine J_if_eq (tgt := 65) (n := 60) dX7_alter_57 (by decide) rfl (fun c_57 => ?_) (fun c_57 => ?_)
          · refine J_iconst (n := 66) dX7_alter_65 kI_m1 rfl ?_
            refine J_iret dX7_alter_66 rfl (kN_i _) ?_
            have hn1 : sp_no S g w x = -1 := by
              unfold sp_no
              rw [if_neg (by first | (rw [nb_0] at c_57; rw [show isG S g = false from c_57, Bool.false_and]; decide) | (rw [nb_0] at c_62; rw [c_62, Bool.and_false]; decide))]
            unfold sp_alter at hq
            rw [hn1, if_neg (by decide +kernel)] at hq
            exact hq v hm
          · refine J_iload (i := 4) (n := 62) dX7_alter_60 rfl rfl ?_
            refine J_if_ne (tgt := 67) (n := 65) dX7_alter_62 (by decide) rfl (fun c_62 => ?_) (fun c_62 => ?_)
            · rw [nb_t] at c_57 c_62
              obtain ⟨j, hj, rfl⟩ := isG_of (S := S) c_57 hO
              obtain ⟨k, z, hk, hz, rfl, rfl, hk0, hk1⟩ := grb_of c_62
              have hno : sp_no S (nI j) (nI k) (nI z) = (if nI k = 1 ∧ S.1.1.2.1 j = true then -2 else nI 0) := by
                unfold sp_no
                rw [if_pos (by rw [show isG S (nI j) = true from c_57, c_62]; rfl), nat_nI (by omega)]
              refine J_iload_n (i := 2) (n := 68) dX7_alter_67 rfl rfl rfl ?_
              refine J_iconst (n := 69) dX7_alter_68 kI_1 rfl ?_
              refine J_icmp_ne (tgt := 85) (n := 72) dX7_alter_69 (by decide) rfl (fun c_69 => ?_) (fun c_69 => ?_)
              · have hn0 : sp_no S (nI j) (nI k) (nI z) = nI 0 := by
                  rw [hno, if_neg]
                  rintro ⟨q1, q2⟩
                  first
                  | exact c_69 q1
                  | (rw [nb_0, q2] at c_77; cases c_77)
                unfold sp_alter at hq
                rw [if_pos hn0, nat_nI (by omega), nat_nI (by omega), nat_nI (by omega)] at hq
                have hvk : v.1 0 (12 + 4 * j + k) = nI (S.1.1.1 (k + 1) j) := by
                  obtain ⟨n0, n1, n2, n3⟩ := ha.2.1 j hj
                  rcases (show k = 0 ∨ k = 1 ∨ k = 2 by omega) with rfl | rfl | rfl
                  · exact n0
                  · refine n1 ?_
                    cases e : S.1.1.2.1 j with
                    | false => rfl
                    | true => rw [hno, if_pos ⟨rfl, e⟩] at hn0; exact absurd hn0 (by decide +kernel)
                  · exact n2
                refine J_aload_n (i := 0) (n := 86) dX7_alter_85 rfl rfl rfl ?_
                refine J_bipush (n := 88) dX7_alter_86 kB_12 rfl ?_
                refine J_iconst (n := 89) dX7_alter_88 kI_4 rfl ?_
                refine J_iload_n (i := 1) (n := 90) dX7_alter_89 rfl rfl rfl ?_
                refine J_imul (n := 91) dX7_alter_90 rfl ?_
                refine J_iadd (n := 92) dX7_alter_91 rfl ?_
                refine J_iload_n (i := 2) (n := 93) dX7_alter_92 rfl rfl rfl ?_
                refine J_iadd (n := 94) dX7_alter_93 rfl ?_
                rw [pk_mul, nI_add, nI_add]
                refine J_iload_n (i := 3) (n := 95) dX7_alter_94 rfl rfl rfl ?_
                refine J_callVr (n := 98) wS_X7_becomes (c_M_becomes (d + 11) _ (by omega) ⟨rfl, rfl⟩) dX7_alter_95 wm_X7_229 ⟨wM_X7_becomes, wV_X7_becomes⟩ rfl (T_recv (by decide) (by first | assumption | decide)) rfl rfl (Nat.le_of_ble_eq_true rfl) rfl ?_
                refine J_iret dX7_alter_98 rfl (kN_i _) ?_
                first
                | (rw [hvk]; exact hq _ (hm.put hS (by omega) (ha.part hB z hj hk) rfl))
                | (rw [nb_t] at c_77
                   rw [if_pos ⟨show nI k = 1 from c_69, c_77⟩] at hno
                   unfold sp_alter at hq
                   rw [hno, if_neg (by decide +kernel)] at hq
                   exact hq v hm)
              · refine J_aload_n (i := 0) (n := 73) dX7_alter_72 rfl rfl rfl ?_
                refine J_iload_n (i := 1) (n := 74) dX7_alter_73 rfl rfl rfl ?_
                refine J_callVr (n := 77) wS_X7_wasPaired (c_M_wasPaired (d + 11) ha0 hB hj ⟨rfl, rfl⟩) dX7_alter_74 wm_X7_226 ⟨wM_X7_wasPaired, wV_X7_wasPaired⟩ rfl (T_recv (by decide) (by first | assumption | decide)) rfl rfl (Nat.le_of_ble_eq_true rfl) rfl ?_
                refine J_if_eq (tgt := 85) (n := 80) dX7_alter_77 (by decide) rfl (fun c_77 => ?_) (fun c_77 => ?_)
                · have hn0 : sp_no S (nI j) (nI k) (nI z) = nI 0 := by
                    rw [hno, if_neg]
                    rintro ⟨q1, q2⟩
                    first
                    | exact c_69 q1
                    | (rw [nb_0, q2] at c_77; cases c_77)
                  unfold sp_alter at hq
                  rw [if_pos hn0, nat_nI (by omega), nat_nI (by omega), nat_nI (by omega)] at hq
                  have hvk : v.1 0 (12 + 4 * j + k) = nI (S.1.1.1 (k + 1) j) := by
                    obtain ⟨n0, n1, n2, n3⟩ := ha.2.1 j hj
                    rcases (show k = 0 ∨ k = 1 ∨ k = 2 by omega) with rfl | rfl | rfl
                    · exact n0
                    · refine n1 ?_
                      cases e : S.1.1.2.1 j with
                      | false => rfl
                      | true => rw [hno, if_pos ⟨rfl, e⟩] at hn0; exact absurd hn0 (by decide +kernel)
                    · exact n2
                  refine J_aload_n (i := 0) (n := 86) dX7_alter_85 rfl rfl rfl ?_
                  refine J_bipush (n := 88) dX7_alter_86 kB_12 rfl ?_
                  refine J_iconst (n := 89) dX7_alter_88 kI_4 rfl ?_
                  refine J_iload_n (i := 1) (n := 90) dX7_alter_89 rfl rfl rfl ?_
                  refine J_imul (n := 91) dX7_alter_90 rfl ?_
                  refine J_iadd (n := 92) dX7_alter_91 rfl ?_
                  refine J_iload_n (i := 2) (n := 93) dX7_alter_92 rfl rfl rfl ?_
                  refine J_iadd (n := 94) dX7_alter_93 rfl ?_
                  rw [pk_mul, nI_add, nI_add]
                  refine J_iload_n (i := 3) (n := 95) dX7_alter_94 rfl rfl rfl ?_
                  refine J_callVr (n := 98) wS_X7_becomes (c_M_becomes (d + 11) _ (by omega) ⟨rfl, rfl⟩) dX7_alter_95 wm_X7_229 ⟨wM_X7_becomes, wV_X7_becomes⟩ rfl (T_recv (by decide) (by first | assumption | decide)) rfl rfl (Nat.le_of_ble_eq_true rfl) rfl ?_
                  refine J_iret dX7_alter_98 rfl (kN_i _) ?_
                  first
                  | (rw [hvk]; exact hq _ (hm.put hS (by omega) (ha.part hB z hj hk) rfl))
                  | (rw [nb_t] at c_77
                     rw [if_pos ⟨show nI k = 1 from c_69, c_77⟩] at hno
                     unfold sp_alter at hq
                     rw [hno, if_neg (by decide +kernel)] at hq
                     exact hq v hm)
                · refine J_bipush (n := 82) dX7_alter_80 kB_m2 rfl ?_
                  refine J_goto (tgt := 98) dX7_alter_82 (by decide) ?_
                  refine J_iret dX7_alter_98 rfl (kN_i _) ?_
                  first
                  | (rw [hvk]; exact hq _ (hm.put hS (by omega) (ha.part hB z hj hk) rfl))
                  | (rw [nb_t] at c_77
                     rw [if_pos ⟨show nI k = 1 from c_69, c_77⟩] at hno
                     unfold sp_alter at hq
                     rw [hno, if_neg (by decide +kernel)] at hq
                     exact hq v hm)
            · refine J_iconst (n := 66) dX7_alter_65 kI_m1 rfl ?_
              refine J_iret dX7_alter_66 rfl (kN_i _) ?_
              have hn1 : sp_no S g w x = -1 := by
                unfold sp_no
                rw [if_neg (by first | (rw [nb_0] at c_57; rw [show isG S g = false from c_57, Bool.false_and]; decide) | (rw [nb_0] at c_62; rw [c_62, Bool.and_false]; decide))]
              unfold sp_alter at hq
              rw [hn1, if_neg (by decide +kernel)] at hq
              exact hq v hm
    · refine J_iload_n (i := 3) (n := 22) dX7_alter_21 rfl rfl rfl ?_
      refine J_callSr (n := 25) wS_X7_isDoor (c_M_isDoor (d + 10) x ⟨rfl, rfl⟩) dX7_alter_22 wm_X7_213 wT_X7_isDoor rfl rfl (Nat.le_of_ble_eq_true rfl) rfl ?_
      refine J_goto (tgt := 50) dX7_alter_25 (by decide) ?_
      first
      | rw [show nI (ix_in x 3).toNat = nI (grb w x).toNat from by rw [grb, if_pos c_1]]
      | rw [show nI (ix_in x 11).toNat = nI (grb w x).toNat from by rw [grb, if_neg c_1, if_pos (show w = 1 from c_18)]]
      | rw [show nI 1 = nI (grb w x).toNat from by rw [grb, if_neg c_1, if_neg (show ¬ w = 1 from c_18), if_pos (show w = 2 from c_30), (nb_t _).mp c_42]; rfl]
      | rw [show nI 0 = nI (grb w x).toNat from by rw [grb, if_neg c_1, if_neg (show ¬ w = 1 from c_18), if_pos (show w = 2 from c_30), (nb_0 _).mp c_42]; rfl]
      | rw [show nI 0 = nI (grb w x).toNat from by rw [grb, if_neg c_1, if_neg (show ¬ w = 1 from c_18), if_neg (show ¬ w = 2 from c_30)]; rfl]
      refine J_istore (i := 4) (n := 52) (lv' := [(0, _), (1, _), (2, _), (3, _), (4, _)]) dX7_alter_50 (by decide) rfl rfl ?_
      refine J_aload_n (i := 0) (n := 53) dX7_alter_52 rfl rfl rfl ?_
      refine J_iload_n (i := 1) (n := 54) dX7_alter_53 rfl rfl rfl ?_
      refine J_callVr (n := 57) wS_X7_isGlove (c_M_isGlove (d + 10) g (S.1.1.2.2 6) hgl0 (by omega) ⟨rfl, rfl⟩) dX7_alter_54 wm_X7_210 ⟨wM_X7_isGlove, wV_X7_isGlove⟩ rfl (T_recv (by decide) (by first | assumption | decide)) rfl rfl (Nat.le_of_ble_eq_true rfl) rfl ?_
      refine J_if_eq (tgt := 65) (n := 60) dX7_alter_57 (by decide) rfl (fun c_57 => ?_) (fun c_57 => ?_)
      · refine J_iconst (n := 66) dX7_alter_65 kI_m1 rfl ?_
        refine J_iret dX7_alter_66 rfl (kN_i _) ?_
        have hn1 : sp_no S g w x = -1 := by
          unfold sp_no
          rw [if_neg (by first | (rw [nb_0] at c_57; rw [show isG S g = false from c_57, Bool.false_and]; decide) | (rw [nb_0] at c_62; rw [c_62, Bool.and_false]; decide))]
        unfold sp_alter at hq
        rw [hn1, if_neg (by decide +kernel)] at hq
        exact hq v hm
      · refine J_iload (i := 4) (n := 62) dX7_alter_60 rfl rfl ?_
        refine J_if_ne (tgt := 67) (n := 65) dX7_alter_62 (by decide) rfl (fun c_62 => ?_) (fun c_62 => ?_)
        · rw [nb_t] at c_57 c_62
          obtain ⟨j, hj, rfl⟩ := isG_of (S := S) c_57 hO
          obtain ⟨k, z, hk, hz, rfl, rfl, hk0, hk1⟩ := grb_of c_62
          have hno : sp_no S (nI j) (nI k) (nI z) = (if nI k = 1 ∧ S.1.1.2.1 j = true then -2 else nI 0) := by
            unfold sp_no
            rw [if_pos (by rw [show isG S (nI j) = true from c_57, c_62]; rfl), nat_nI (by omega)]
          refine J_iload_n (i := 2) (n := 68) dX7_alter_67 rfl rfl rfl ?_
          refine J_iconst (n := 69) dX7_alter_68 kI_1 rfl ?_
          refine J_icmp_ne (tgt := 85) (n := 72) dX7_alter_69 (by decide) rfl (fun c_69 => ?_) (fun c_69 => ?_)
          · have hn0 : sp_no S (nI j) (nI k) (nI z) = nI 0 := by
              rw [hno, if_neg]
              rintro ⟨q1, q2⟩
              first
              | exact c_69 q1
              | (rw [nb_0, q2] at c_77; cases c_77)
            unfold sp_alter at hq
            rw [if_pos hn0, nat_nI (by omega), nat_nI (by omega), nat_nI (by omega)] at hq
            have hvk : v.1 0 (12 + 4 * j + k) = nI (S.1.1.1 (k + 1) j) := by
              obtain ⟨n0, n1, n2, n3⟩ := ha.2.1 j hj
              rcases (show k = 0 ∨ k = 1 ∨ k = 2 by omega) with rfl | rfl | rfl
              · exact n0
              · refine n1 ?_
                cases e : S.1.1.2.1 j with
                | false => rfl
                | true => rw [hno, if_pos ⟨rfl, e⟩] at hn0; exact absurd hn0 (by decide +kernel)
              · exact n2
            refine J_aload_n (i := 0) (n := 86) dX7_alter_85 rfl rfl rfl ?_
            refine J_bipush (n := 88) dX7_alter_86 kB_12 rfl ?_
            refine J_iconst (n := 89) dX7_alter_88 kI_4 rfl ?_
            refine J_iload_n (i := 1) (n := 90) dX7_alter_89 rfl rfl rfl ?_
            refine J_imul (n := 91) dX7_alter_90 rfl ?_
            refine J_iadd (n := 92) dX7_alter_91 rfl ?_
            refine J_iload_n (i := 2) (n := 93) dX7_alter_92 rfl rfl rfl ?_
            refine J_iadd (n := 94) dX7_alter_93 rfl ?_
            rw [pk_mul, nI_add, nI_add]
            refine J_iload_n (i := 3) (n := 95) dX7_alter_94 rfl rfl rfl ?_
            refine J_callVr (n := 98) wS_X7_becomes (c_M_becomes (d + 11) _ (by omega) ⟨rfl, rfl⟩) dX7_alter_95 wm_X7_229 ⟨wM_X7_becomes, wV_X7_becomes⟩ rfl (T_recv (by decide) (by first | assumption | decide)) rfl rfl (Nat.le_of_ble_eq_true rfl) rfl ?_
            refine J_iret dX7_alter_98 rfl (kN_i _) ?_
            first
            | (rw [hvk]; exact hq _ (hm.put hS (by omega) (ha.part hB z hj hk) rfl))
            | (rw [nb_t] at c_77
               rw [if_pos ⟨show nI k = 1 from c_69, c_77⟩] at hno
               unfold sp_alter at hq
               rw [hno, if_neg (by decide +kernel)] at hq
               exact hq v hm)
          · refine J_aload_n (i := 0) (n := 73) dX7_alter_72 rfl rfl rfl ?_
            refine J_iload_n (i := 1) (n := 74) dX7_alter_73 rfl rfl rfl ?_
            refine J_callVr (n := 77) wS_X7_wasPaired (c_M_wasPaired (d + 11) ha0 hB hj ⟨rfl, rfl⟩) dX7_alter_74 wm_X7_226 ⟨wM_X7_wasPaired, wV_X7_wasPaired⟩ rfl (T_recv (by decide) (by first | assumption | decide)) rfl rfl (Nat.le_of_ble_eq_true rfl) rfl ?_
            refine J_if_eq (tgt := 85) (n := 80) dX7_alter_77 (by decide) rfl (fun c_77 => ?_) (fun c_77 => ?_)
            · have hn0 : sp_no S (nI j) (nI k) (nI z) = nI 0 := by
                rw [hno, if_neg]
                rintro ⟨q1, q2⟩
                first
                | exact c_69 q1
                | (rw [nb_0, q2] at c_77; cases c_77)
              unfold sp_alter at hq
              rw [if_pos hn0, nat_nI (by omega), nat_nI (by omega), nat_nI (by omega)] at hq
              have hvk : v.1 0 (12 + 4 * j + k) = nI (S.1.1.1 (k + 1) j) := by
                obtain ⟨n0, n1, n2, n3⟩ := ha.2.1 j hj
                rcases (show k = 0 ∨ k = 1 ∨ k = 2 by omega) with rfl | rfl | rfl
                · exact n0
                · refine n1 ?_
                  cases e : S.1.1.2.1 j with
                  | false => rfl
                  | true => rw [hno, if_pos ⟨rfl, e⟩] at hn0; exact absurd hn0 (by decide +kernel)
                · exact n2
              refine J_aload_n (i := 0) (n := 86) dX7_alter_85 rfl rfl rfl ?_
              refine J_bipush (n := 88) dX7_alter_86 kB_12 rfl ?_
              refine J_iconst (n := 89) dX7_alter_88 kI_4 rfl ?_
              refine J_iload_n (i := 1) (n := 90) dX7_alter_89 rfl rfl rfl ?_
              refine J_imul (n := 91) dX7_alter_90 rfl ?_
              refine J_iadd (n := 92) dX7_alter_91 rfl ?_
              refine J_iload_n (i := 2) (n := 93) dX7_alter_92 rfl rfl rfl ?_
              refine J_iadd (n := 94) dX7_alter_93 rfl ?_
              rw [pk_mul, nI_add, nI_add]
              refine J_iload_n (i := 3) (n := 95) dX7_alter_94 rfl rfl rfl ?_
              refine J_callVr (n := 98) wS_X7_becomes (c_M_becomes (d + 11) _ (by omega) ⟨rfl, rfl⟩) dX7_alter_95 wm_X7_229 ⟨wM_X7_becomes, wV_X7_becomes⟩ rfl (T_recv (by decide) (by first | assumption | decide)) rfl rfl (Nat.le_of_ble_eq_true rfl) rfl ?_
              refine J_iret dX7_alter_98 rfl (kN_i _) ?_
              first
              | (rw [hvk]; exact hq _ (hm.put hS (by omega) (ha.part hB z hj hk) rfl))
              | (rw [nb_t] at c_77
                 rw [if_pos ⟨show nI k = 1 from c_69, c_77⟩] at hno
                 unfold sp_alter at hq
                 rw [hno, if_neg (by decide +kernel)] at hq
                 exact hq v hm)
            · refine J_bipush (n := 82) dX7_alter_80 kB_m2 rfl ?_
              refine J_goto (tgt := 98) dX7_alter_82 (by decide) ?_
              refine J_iret dX7_alter_98 rfl (kN_i _) ?_
              first
              | (rw [hvk]; exact hq _ (hm.put hS (by omega) (ha.part hB z hj hk) rfl))
              | (rw [nb_t] at c_77
                 rw [if_pos ⟨show nI k = 1 from c_69, c_77⟩] at hno
                 unfold sp_alter at hq
                 rw [hno, if_neg (by decide +kernel)] at hq
                 exact hq v hm)
        · refine J_iconst (n := 66) dX7_alter_65 kI_m1 rfl ?_
          refine J_iret dX7_alter_66 rfl (kN_i _) ?_
          have hn1 : sp_no S g w x = -1 := by
            unfold sp_no
            rw [if_neg (by first | (rw [nb_0] at c_57; rw [show isG S g = false from c_57, Bool.false_and]; decide) | (rw [nb_0] at c_62; rw [c_62, Bool.and_false]; decide))]
          unfold sp_alter at hq
          rw [hn1, if_neg (by decide +kernel)] at hq
          exact hq v hm
  · refine J_iload_n (i := 3) (n := 5) dX7_alter_4 rfl rfl rfl ?_
    refine J_i2l (n := 6) dX7_alter_5 rfl ?_
    refine J_lconst (n := 7) dX7_alter_6 kL_0 rfl ?_
    refine J_ldc2 (n := 10) dX7_alter_7 wd_X7_222 rfl ?_
    refine J_callSr (n := 13) wS_X7_in (c_M_in (d + 11) x 3 (by decide) ⟨rfl, rfl⟩) dX7_alter_10 wm_X7_72 wT_X7_in rfl rfl (Nat.le_of_ble_eq_true rfl) rfl ?_
    refine J_goto (tgt := 50) dX7_alter_13 (by decide) ?_
    first
    | rw [show nI (ix_in x 3).toNat = nI (grb w x).toNat from by rw [grb, if_pos c_1]]
    | rw [show nI (ix_in x 11).toNat = nI (grb w x).toNat from by rw [grb, if_neg c_1, if_pos (show w = 1 from c_18)]]
    | rw [show nI 1 = nI (grb w x).toNat from by rw [grb, if_neg c_1, if_neg (show ¬ w = 1 from c_18), if_pos (show w = 2 from c_30), (nb_t _).mp c_42]; rfl]
    | rw [show nI 0 = nI (grb w x).toNat from by rw [grb, if_neg c_1, if_neg (show ¬ w = 1 from c_18), if_pos (show w = 2 from c_30), (nb_0 _).mp c_42]; rfl]
    | rw [show nI 0 = nI (grb w x).toNat from by rw [grb, if_neg c_1, if_neg (show ¬ w = 1 from c_18), if_neg (show ¬ w = 2 from c_30)]; rfl]
    refine J_istore (i := 4) (n := 52) (lv' := [(0, _), (1, _), (2, _), (3, _), (4, _)]) dX7_alter_50 (by decide) rfl rfl ?_
    refine J_aload_n (i := 0) (n := 53) dX7_alter_52 rfl rfl rfl ?_
    refine J_iload_n (i := 1) (n := 54) dX7_alter_53 rfl rfl rfl ?_
    refine J_callVr (n := 57) wS_X7_isGlove (c_M_isGlove (d + 10) g (S.1.1.2.2 6) hgl0 (by omega) ⟨rfl, rfl⟩) dX7_alter_54 wm_X7_210 ⟨wM_X7_isGlove, wV_X7_isGlove⟩ rfl (T_recv (by decide) (by first | assumption | decide)) rfl rfl (Nat.le_of_ble_eq_true rfl) rfl ?_
    refine J_if_eq (tgt := 65) (n := 60) dX7_alter_57 (by decide) rfl (fun c_57 => ?_) (fun c_57 => ?_)
    · refine J_iconst (n := 66) dX7_alter_65 kI_m1 rfl ?_
      refine J_iret dX7_alter_66 rfl (kN_i _) ?_
      have hn1 : sp_no S g w x = -1 := by
        unfold sp_no
        rw [if_neg (by first | (rw [nb_0] at c_57; rw [show isG S g = false from c_57, Bool.false_and]; decide) | (rw [nb_0] at c_62; rw [c_62, Bool.and_false]; decide))]
      unfold sp_alter at hq
      rw [hn1, if_neg (by decide +kernel)] at hq
      exact hq v hm
    · refine J_iload (i := 4) (n := 62) dX7_alter_60 rfl rfl ?_
      refine J_if_ne (tgt := 67) (n := 65) dX7_alter_62 (by decide) rfl (fun c_62 => ?_) (fun c_62 => ?_)
      · rw [nb_t] at c_57 c_62
        obtain ⟨j, hj, rfl⟩ := isG_of (S := S) c_57 hO
        obtain ⟨k, z, hk, hz, rfl, rfl, hk0, hk1⟩ := grb_of c_62
        have hno : sp_no S (nI j) (nI k) (nI z) = (if nI k = 1 ∧ S.1.1.2.1 j = true then -2 else nI 0) := by
          unfold sp_no
          rw [if_pos (by rw [show isG S (nI j) = true from c_57, c_62]; rfl), nat_nI (by omega)]
        refine J_iload_n (i := 2) (n := 68) dX7_alter_67 rfl rfl rfl ?_
        refine J_iconst (n := 69) dX7_alter_68 kI_1 rfl ?_
        refine J_icmp_ne (tgt := 85) (n := 72) dX7_alter_69 (by decide) rfl (fun c_69 => ?_) (fun c_69 => ?_)
        · have hn0 : sp_no S (nI j) (nI k) (nI z) = nI 0 := by
            rw [hno, if_neg]
            rintro ⟨q1, q2⟩
            first
            | exact c_69 q1
            | (rw [nb_0, q2] at c_77; cases c_77)
          unfold sp_alter at hq
          rw [if_pos hn0, nat_nI (by omega), nat_nI (by omega), nat_nI (by omega)] at hq
          have hvk : v.1 0 (12 + 4 * j + k) = nI (S.1.1.1 (k + 1) j) := by
            obtain ⟨n0, n1, n2, n3⟩ := ha.2.1 j hj
            rcases (show k = 0 ∨ k = 1 ∨ k = 2 by omega) with rfl | rfl | rfl
            · exact n0
            · refine n1 ?_
              cases e : S.1.1.2.1 j with
              | false => rfl
              | true => rw [hno, if_pos ⟨rfl, e⟩] at hn0; exact absurd hn0 (by decide +kernel)
            · exact n2
          refine J_aload_n (i := 0) (n := 86) dX7_alter_85 rfl rfl rfl ?_
          refine J_bipush (n := 88) dX7_alter_86 kB_12 rfl ?_
          refine J_iconst (n := 89) dX7_alter_88 kI_4 rfl ?_
          refine J_iload_n (i := 1) (n := 90) dX7_alter_89 rfl rfl rfl ?_
          refine J_imul (n := 91) dX7_alter_90 rfl ?_
          refine J_iadd (n := 92) dX7_alter_91 rfl ?_
          refine J_iload_n (i := 2) (n := 93) dX7_alter_92 rfl rfl rfl ?_
          refine J_iadd (n := 94) dX7_alter_93 rfl ?_
          rw [pk_mul, nI_add, nI_add]
          refine J_iload_n (i := 3) (n := 95) dX7_alter_94 rfl rfl rfl ?_
          refine J_callVr (n := 98) wS_X7_becomes (c_M_becomes (d + 11) _ (by omega) ⟨rfl, rfl⟩) dX7_alter_95 wm_X7_229 ⟨wM_X7_becomes, wV_X7_becomes⟩ rfl (T_recv (by decide) (by first | assumption | decide)) rfl rfl (Nat.le_of_ble_eq_true rfl) rfl ?_
          refine J_iret dX7_alter_98 rfl (kN_i _) ?_
          first
          | (rw [hvk]; exact hq _ (hm.put hS (by omega) (ha.part hB z hj hk) rfl))
          | (rw [nb_t] at c_77
             rw [if_pos ⟨show nI k = 1 from c_69, c_77⟩] at hno
             unfold sp_alter at hq
             rw [hno, if_neg (by decide +kernel)] at hq
             exact hq v hm)
        · refine J_aload_n (i := 0) (n := 73) dX7_alter_72 rfl rfl rfl ?_
          refine J_iload_n (i := 1) (n := 74) dX7_alter_73 rfl rfl rfl ?_
          refine J_callVr (n := 77) wS_X7_wasPaired (c_M_wasPaired (d + 11) ha0 hB hj ⟨rfl, rfl⟩) dX7_alter_74 wm_X7_226 ⟨wM_X7_wasPaired, wV_X7_wasPaired⟩ rfl (T_recv (by decide) (by first | assumption | decide)) rfl rfl (Nat.le_of_ble_eq_true rfl) rfl ?_
          refine J_if_eq (tgt := 85) (n := 80) dX7_alter_77 (by decide) rfl (fun c_77 => ?_) (fun c_77 => ?_)
          · have hn0 : sp_no S (nI j) (nI k) (nI z) = nI 0 := by
              rw [hno, if_neg]
              rintro ⟨q1, q2⟩
              first
              | exact c_69 q1
              | (rw [nb_0, q2] at c_77; cases c_77)
            unfold sp_alter at hq
            rw [if_pos hn0, nat_nI (by omega), nat_nI (by omega), nat_nI (by omega)] at hq
            have hvk : v.1 0 (12 + 4 * j + k) = nI (S.1.1.1 (k + 1) j) := by
              obtain ⟨n0, n1, n2, n3⟩ := ha.2.1 j hj
              rcases (show k = 0 ∨ k = 1 ∨ k = 2 by omega) with rfl | rfl | rfl
              · exact n0
              · refine n1 ?_
                cases e : S.1.1.2.1 j with
                | false => rfl
                | true => rw [hno, if_pos ⟨rfl, e⟩] at hn0; exact absurd hn0 (by decide +kernel)
              · exact n2
            refine J_aload_n (i := 0) (n := 86) dX7_alter_85 rfl rfl rfl ?_
            refine J_bipush (n := 88) dX7_alter_86 kB_12 rfl ?_
            refine J_iconst (n := 89) dX7_alter_88 kI_4 rfl ?_
            refine J_iload_n (i := 1) (n := 90) dX7_alter_89 rfl rfl rfl ?_
            refine J_imul (n := 91) dX7_alter_90 rfl ?_
            refine J_iadd (n := 92) dX7_alter_91 rfl ?_
            refine J_iload_n (i := 2) (n := 93) dX7_alter_92 rfl rfl rfl ?_
            refine J_iadd (n := 94) dX7_alter_93 rfl ?_
            rw [pk_mul, nI_add, nI_add]
            refine J_iload_n (i := 3) (n := 95) dX7_alter_94 rfl rfl rfl ?_
            refine J_callVr (n := 98) wS_X7_becomes (c_M_becomes (d + 11) _ (by omega) ⟨rfl, rfl⟩) dX7_alter_95 wm_X7_229 ⟨wM_X7_becomes, wV_X7_becomes⟩ rfl (T_recv (by decide) (by first | assumption | decide)) rfl rfl (Nat.le_of_ble_eq_true rfl) rfl ?_
            refine J_iret dX7_alter_98 rfl (kN_i _) ?_
            first
            | (rw [hvk]; exact hq _ (hm.put hS (by omega) (ha.part hB z hj hk) rfl))
            | (rw [nb_t] at c_77
               rw [if_pos ⟨show nI k = 1 from c_69, c_77⟩] at hno
               unfold sp_alter at hq
               rw [hno, if_neg (by decide +kernel)] at hq
               exact hq v hm)
          · refine J_bipush (n := 82) dX7_alter_80 kB_m2 rfl ?_
            refine J_goto (tgt := 98) dX7_alter_82 (by decide) ?_
            refine J_iret dX7_alter_98 rfl (kN_i _) ?_
            first
            | (rw [hvk]; exact hq _ (hm.put hS (by omega) (ha.part hB z hj hk) rfl))
            | (rw [nb_t] at c_77
               rw [if_pos ⟨show nI k = 1 from c_69, c_77⟩] at hno
               unfold sp_alter at hq
               rw [hno, if_neg (by decide +kernel)] at hq
               exact hq v hm)
      · refine J_iconst (n := 66) dX7_alter_65 kI_m1 rfl ?_
        refine J_iret dX7_alter_66 rfl (kN_i _) ?_
        have hn1 : sp_no S g w x = -1 := by
          unfold sp_no
          rw [if_neg (by first | (rw [nb_0] at c_57; rw [show isG S g = false from c_57, Bool.false_and]; decide) | (rw [nb_0] at c_62; rw [c_62, Bool.and_false]; decide))]
        unfold sp_alter at hq
        rw [hn1, if_neg (by decide +kernel)] at hq
        exact hq v hm

set_option maxHeartbeats 4000000 in
set_option maxRecDepth 100000 in
theorem c_N_call {G : gx_G} {σ : gs_S} {Q : Option Value → gx_Hp → Prop} {S : pS} {v : gs_Ob} (d : Nat) (e : Int32) (hS : SOk S) (hm : mR v S) (hq : ∀ v1, mR v1 (sp_call S e).2 → Q (some (.int (sp_call S e).1)) (hp G (gs_set σ 7 0 v1))) : gx_K G yX7_call mX7_call (d + 12) 0 0 [.ref (gs_a G 7 0 0), .int e] (hp G (gs_set σ 7 0 v)) Q := by
  obtain ⟨⟨ha, hsn, hgl⟩, hkm, htp, hft, hsh⟩ := id hm
  have hO := hS.1.1
  have hB := hO.aB
  have h4 : S.1.1.2.2 6 ≤ 4 := hO.2.2.2.2.1
  have h6 : S.1.1.2.2 7 ≤ 6 := hO.2.2.2.2.2.1
  have hm11 : S.1.1.2.2 8 ≤ 11 := hO.2.2.2.2.2.2.1
  have hn9 : S.1.1.2.2 9 ≤ 9999 := hO.2.2.2.2.2.2.2
  have hd9 : S.1.1.2.2 10 ≤ 999 := hS.1.2.2.1
  have h160 : S.2.2.2.1.2 ≤ 160 := hS.2.2.1.1
  have e28 := ha.2.2.2.1
  have e29 := ha.2.2.2.2.1
  have e36 := ha.2.2.2.2.2.1
  have e37 := ha.2.2.2.2.2.2
  have g0 : gs_set σ 7 0 v 7 0 = v := gs_same _ _ _ _
  have hgl0 : (gs_set σ 7 0 v 7 0).2.1 3 = nI (S.1.1.2.2 6) := by rw [g0]; exact hgl
  have ha0 : aR ((gs_set σ 7 0 v 7 0).1 0) S.1.1 := by rw [g0]; exact ha
  refine gx_K.of' (lv := [(0, _), (1, _)]) (by decide) rfl (by decide) (Nat.le_of_ble_eq_true rfl) rfl ?_
  refine J_iload_n (i := 1) (n := 1) dX7_call_0 rfl rfl rfl ?_
  refine J_callSr (n := 4) wS_X7_isDoor (c_M_isDoor (d + 10) e ⟨rfl, rfl⟩) dX7_call_1 wm_X7_213 wT_X7_isDoor rfl rfl (Nat.le_of_ble_eq_true rfl) rfl ?_
  refine J_if_ne (tgt := 9) (n := 7) dX7_call_4 (by decide) rfl (fun c_4 => ?_) (fun c_4 => ?_)
  · rw [nb_t] at c_4
    unfold sp_call at hq
    rw [if_pos c_4] at hq
    obtain ⟨j, hj, rfl⟩ := ix_of c_4 (by omega)
    rw [nat_nI (by omega)] at hq
    refine J_aload_n (i := 0) (n := 10) dX7_call_9 rfl rfl rfl ?_
    refine T_get (k := 0) (n := 13) wk_X7 dX7_call_10 wf_X7_7 (by decide) (by first | assumption | decide) rfl rfl ?_
    refine J_bipush (n := 15) dX7_call_13 kB_29 rfl ?_
    refine T_iald (c := 7) (k := 0) (N := 171) (n := 16) dX7_call_15 (by decide) (by first | assumption | decide) rfl (vp_in_nI (by decide) (by decide)) rfl ?_
    rw [nI_clamp (by decide), e29]
    refine J_bipush (n := 18) dX7_call_16 kB_6 rfl ?_
    refine J_icmp_ne (tgt := 24) (n := 21) dX7_call_18 (by decide) rfl (fun c_18 => ?_) (fun c_18 => ?_)
    · rw [nI_eq (by omega) (by omega)] at c_18
      rw [if_neg (by omega)] at hq
      refine J_aload_n (i := 0) (n := 25) dX7_call_24 rfl rfl rfl ?_
      refine T_get (k := 0) (n := 28) wk_X7 dX7_call_25 wf_X7_7 (by decide) (by first | assumption | decide) rfl rfl ?_
      refine J_bipush (n := 30) dX7_call_28 kB_30 rfl ?_
      refine J_aload_n (i := 0) (n := 31) dX7_call_30 rfl rfl rfl ?_
      refine T_get (k := 0) (n := 34) wk_X7 dX7_call_31 wf_X7_7 (by decide) (by first | assumption | decide) rfl rfl ?_
      refine J_bipush (n := 36) dX7_call_34 kB_29 rfl ?_
      refine T_iald (c := 7) (k := 0) (N := 171) (n := 37) dX7_call_36 (by decide) (by first | assumption | decide) rfl (vp_in_nI (by decide) (by decide)) rfl ?_
      refine J_iadd (n := 38) dX7_call_37 rfl ?_
      rw [nI_clamp (by decide), e29, nI_add]
      refine J_iload_n (i := 1) (n := 39) dX7_call_38 rfl rfl rfl ?_
      refine T_iast (c := 7) (k := 0) (N := 171) (n := 40) dX7_call_39 (by decide) (by first | assumption | decide) (fun _ => rfl) (vp_in_nI (by omega) (by decide)) rfl ?_
      rw [nI_clamp (by omega)]
      have ha1 : aR (upd (v.1 0) (30 + S.1.1.2.2 7) (nI j)) (pw_a S.1.1 4 (S.1.1.2.2 7) j) := ha.route hB j (by omega)
      have e0 : (gs_w v 0 (upd (v.1 0) (30 + S.1.1.2.2 7) (nI j))).1 0 = upd (v.1 0) (30 + S.1.1.2.2 7) (nI j) := by simp [gs_w, va_up]
      have f29 : (gs_w v 0 (upd (v.1 0) (30 + S.1.1.2.2 7) (nI j))).1 0 29 = nI (S.1.1.2.2 7) := by rw [e0, pk_un (by omega)]; exact e29
      have ha2 : aR (upd (upd (v.1 0) (30 + S.1.1.2.2 7) (nI j)) 29 (nI (S.1.1.2.2 7 + 1))) (pw_f (pw_a S.1.1 4 (S.1.1.2.2 7) j) 7 (S.1.1.2.2 7 + 1)) := ha1.callsTo hB _ (fun q h1 h2 => by
          have h1 : S.1.1.2.2 7 ≤ q := h1
          have eq : q = S.1.1.2.2 7 := by omega
          subst eq
          rw [pk_us]; simp [pw_a]) (by omega)
      refine J_aload_n (i := 0) (n := 41) dX7_call_40 rfl rfl rfl ?_
      refine T_get (k := 0) (n := 44) wk_X7 dX7_call_41 wf_X7_7 (by decide) (by first | assumption | decide) rfl rfl ?_
      refine J_bipush (n := 46) dX7_call_44 kB_29 rfl ?_
      refine J_dup2 (n := 47) dX7_call_46 rfl rfl rfl ?_
      refine T_iald (c := 7) (k := 0) (N := 171) (n := 48) dX7_call_47 (by decide) (by first | assumption | decide) rfl (vp_in_nI (by decide) (by decide)) rfl ?_
      rw [nI_clamp (by decide), f29]
      refine J_iconst (n := 49) dX7_call_48 kI_1 rfl ?_
      refine J_iadd (n := 50) dX7_call_49 rfl ?_
      rw [nI_add]
      refine T_iast (c := 7) (k := 0) (N := 171) (n := 51) dX7_call_50 (by decide) (by first | assumption | decide) (fun _ => rfl) (vp_in_nI (by decide) (by decide)) rfl ?_
      rw [nI_clamp (by decide), e0]
      have e2 : gs_w (gs_w v 0 (upd (v.1 0) (30 + S.1.1.2.2 7) (nI j))) 0 (upd (upd (v.1 0) (30 + S.1.1.2.2 7) (nI j)) 29 (nI (S.1.1.2.2 7 + 1))) = gs_w v 0 (upd (upd (v.1 0) (30 + S.1.1.2.2 7) (nI j)) 29 (nI (S.1.1.2.2 7 + 1))) := by
        unfold gs_w
        rw [bx_uu]
      rw [e2]
      refine J_aload_n (i := 0) (n := 52) dX7_call_51 rfl rfl rfl ?_
      refine T_get (k := 0) (n := 55) wk_X7 dX7_call_52 wf_X7_7 (by decide) (by first | assumption | decide) rfl rfl ?_
      refine J_bipush (n := 57) dX7_call_55 kB_29 rfl ?_
      refine T_iald (c := 7) (k := 0) (N := 171) (n := 58) dX7_call_57 (by decide) (by first | assumption | decide) rfl (vp_in_nI (by decide) (by decide)) rfl ?_
      rw [nI_clamp (by decide), show (gs_w v 0 (upd (upd (v.1 0) (30 + S.1.1.2.2 7) (nI j)) 29 (nI (S.1.1.2.2 7 + 1)))).1 0 29 = nI (S.1.1.2.2 7 + 1) from by simp only [gs_w, va_up, if_true]; rw [pk_us]]
      refine J_iret dX7_call_58 rfl (kN_i _) ?_
      exact hq _ (hm.st (i := (pw_f (pw_a S.1.1 4 (S.1.1.2.2 7) j) 7 (S.1.1.2.2 7 + 1), S.1.2)) ha2 (hsn.lo hS.1.2.2.2.1 (by omega) |>.lo hS.1.2.2.2.1 (by omega)) (fun q hq1 => by rw [pk_un (by omega), pk_un (by omega)]) rfl)
    · rw [nI_eq (by omega) (by omega)] at c_18
      refine J_bipush (n := 23) dX7_call_21 kB_m3 rfl ?_
      refine J_iret dX7_call_23 rfl (kN_i _) ?_
      rw [if_pos (by omega)] at hq
      exact hq v hm
  · refine J_iconst (n := 8) dX7_call_7 kI_m1 rfl ?_
    refine J_iret dX7_call_8 rfl (kN_i _) ?_
    rw [nb_0] at c_4
    unfold sp_call at hq
    rw [c_4, if_neg (by decide)] at hq
    exact hq v hm

set_option maxHeartbeats 4000000 in
set_option maxRecDepth 100000 in
theorem c_N_cut {G : gx_G} {σ : gs_S} {Q : Option Value → gx_Hp → Prop} {S : pS} {v : gs_Ob} (d : Nat) (n : Int32) (hS : SOk S) (hm : mR v S) (hq : ∀ v1, mR v1 (sp_cut S n).2 → Q (some (.int (sp_cut S n).1)) (hp G (gs_set σ 7 0 v1))) : gx_K G yX7_cut mX7_cut (d + 12) 0 0 [.ref (gs_a G 7 0 0), .int n] (hp G (gs_set σ 7 0 v)) Q := by
  obtain ⟨⟨ha, hsn, hgl⟩, hkm, htp, hft, hsh⟩ := id hm
  have hO := hS.1.1
  have hB := hO.aB
  have h4 : S.1.1.2.2 6 ≤ 4 := hO.2.2.2.2.1
  have h6 : S.1.1.2.2 7 ≤ 6 := hO.2.2.2.2.2.1
  have hm11 : S.1.1.2.2 8 ≤ 11 := hO.2.2.2.2.2.2.1
  have hn9 : S.1.1.2.2 9 ≤ 9999 := hO.2.2.2.2.2.2.2
  have hd9 : S.1.1.2.2 10 ≤ 999 := hS.1.2.2.1
  have h160 : S.2.2.2.1.2 ≤ 160 := hS.2.2.1.1
  have e28 := ha.2.2.2.1
  have e29 := ha.2.2.2.2.1
  have e36 := ha.2.2.2.2.2.1
  have e37 := ha.2.2.2.2.2.2
  have g0 : gs_set σ 7 0 v 7 0 = v := gs_same _ _ _ _
  have hgl0 : (gs_set σ 7 0 v 7 0).2.1 3 = nI (S.1.1.2.2 6) := by rw [g0]; exact hgl
  have ha0 : aR ((gs_set σ 7 0 v 7 0).1 0) S.1.1 := by rw [g0]; exact ha
  refine gx_K.of' (lv := [(0, _), (1, _)]) (by decide) rfl (by decide) (Nat.le_of_ble_eq_true rfl) rfl ?_
  refine J_iload_n (i := 1) (n := 1) dX7_cut_0 rfl rfl rfl ?_
  refine J_i2l (n := 2) dX7_cut_1 rfl ?_
  refine J_lconst (n := 3) dX7_cut_2 kL_0 rfl ?_
  refine J_aload_n (i := 0) (n := 4) dX7_cut_3 rfl rfl rfl ?_
  refine T_get (k := 0) (n := 7) wk_X7 dX7_cut_4 wf_X7_7 (by decide) (by first | assumption | decide) rfl rfl ?_
  refine J_bipush (n := 9) dX7_cut_7 kB_29 rfl ?_
  refine T_iald (c := 7) (k := 0) (N := 171) (n := 10) dX7_cut_9 (by decide) (by first | assumption | decide) rfl (vp_in_nI (by decide) (by decide)) rfl ?_
  rw [nI_clamp (by decide), e29]
  refine J_i2l (n := 11) dX7_cut_10 rfl ?_
  rw [nI_l (by omega)]
  refine J_callSr (n := 14) wS_X7_in (c_M_in (d + 11) n (S.1.1.2.2 7) (by omega) ⟨rfl, rfl⟩) dX7_cut_11 wm_X7_72 wT_X7_in rfl rfl (Nat.le_of_ble_eq_true rfl) rfl ?_
  refine J_if_eq (tgt := 27) (n := 17) dX7_cut_14 (by decide) rfl (fun c_14 => ?_) (fun c_14 => ?_)
  · refine J_iconst (n := 28) dX7_cut_27 kI_m1 rfl ?_
    refine J_iret dX7_cut_28 rfl (kN_i _) ?_
    first
    | exact hq _ (hm.put hS (by decide) (ha.callsTo hB j (fun q h1 h2 => absurd h1 (by omega)) (by omega)) rfl)
    | (rw [nb_0] at c_14
       unfold sp_cut at hq
       rw [c_14, if_neg (by decide)] at hq
       exact hq v hm)
  · rw [nb_t] at c_14
    unfold sp_cut at hq
    rw [if_pos c_14] at hq
    obtain ⟨j, hj, rfl⟩ := ix_of c_14 (by omega)
    rw [nat_nI (by omega)] at hq
    refine J_aload_n (i := 0) (n := 18) dX7_cut_17 rfl rfl rfl ?_
    refine J_bipush (n := 20) dX7_cut_18 kB_29 rfl ?_
    refine J_iload_n (i := 1) (n := 21) dX7_cut_20 rfl rfl rfl ?_
    refine J_callVr (n := 24) wS_X7_becomes (c_M_becomes (d + 11) _ (by decide) ⟨rfl, rfl⟩) dX7_cut_21 wm_X7_229 ⟨wM_X7_becomes, wV_X7_becomes⟩ rfl (T_recv (by decide) (by first | assumption | decide)) rfl rfl (Nat.le_of_ble_eq_true rfl) rfl ?_
    rw [e29]
    refine J_goto (tgt := 28) dX7_cut_24 (by decide) ?_
    refine J_iret dX7_cut_28 rfl (kN_i _) ?_
    first
    | exact hq _ (hm.put hS (by decide) (ha.callsTo hB j (fun q h1 h2 => absurd h1 (by omega)) (by omega)) rfl)
    | (rw [nb_0] at c_14
       unfold sp_cut at hq
       rw [c_14, if_neg (by decide)] at hq
       exact hq v hm)

set_option maxHeartbeats 4000000 in
set_option maxRecDepth 100000 in
theorem c_N_days {G : gx_G} {σ : gs_S} {Q : Option Value → gx_Hp → Prop} {S : pS} {v : gs_Ob} (d : Nat) (n : Int32) (hS : SOk S) (hm : mR v S) (hq : ∀ v1, mR v1 (sp_days S n).2 → Q (some (.int (sp_days S n).1)) (hp G (gs_set σ 7 0 v1))) : gx_K G yX7_days mX7_days (d + 12) 0 0 [.ref (gs_a G 7 0 0), .int n] (hp G (gs_set σ 7 0 v)) Q := by
  obtain ⟨⟨ha, hsn, hgl⟩, hkm, htp, hft, hsh⟩ := id hm
  have hO := hS.1.1
  have hB := hO.aB
  have h4 : S.1.1.2.2 6 ≤ 4 := hO.2.2.2.2.1
  have h6 : S.1.1.2.2 7 ≤ 6 := hO.2.2.2.2.2.1
  have hm11 : S.1.1.2.2 8 ≤ 11 := hO.2.2.2.2.2.2.1
  have hn9 : S.1.1.2.2 9 ≤ 9999 := hO.2.2.2.2.2.2.2
  have hd9 : S.1.1.2.2 10 ≤ 999 := hS.1.2.2.1
  have h160 : S.2.2.2.1.2 ≤ 160 := hS.2.2.1.1
  have e28 := ha.2.2.2.1
  have e29 := ha.2.2.2.2.1
  have e36 := ha.2.2.2.2.2.1
  have e37 := ha.2.2.2.2.2.2
  have g0 : gs_set σ 7 0 v 7 0 = v := gs_same _ _ _ _
  have hgl0 : (gs_set σ 7 0 v 7 0).2.1 3 = nI (S.1.1.2.2 6) := by rw [g0]; exact hgl
  have ha0 : aR ((gs_set σ 7 0 v 7 0).1 0) S.1.1 := by rw [g0]; exact ha
  refine gx_K.of' (lv := [(0, _), (1, _)]) (by decide) rfl (by decide) (Nat.le_of_ble_eq_true rfl) rfl ?_
  refine J_iload_n (i := 1) (n := 1) dX7_days_0 rfl rfl rfl ?_
  refine J_i2l (n := 2) dX7_days_1 rfl ?_
  refine J_lconst (n := 3) dX7_days_2 kL_0 rfl ?_
  refine J_ldc2 (n := 6) dX7_days_3 wd_X7_234 rfl ?_
  refine J_callSr (n := 9) wS_X7_in (c_M_in (d + 11) n 30 (by decide) ⟨rfl, rfl⟩) dX7_days_6 wm_X7_72 wT_X7_in rfl rfl (Nat.le_of_ble_eq_true rfl) rfl ?_
  refine J_if_ne (tgt := 14) (n := 12) dX7_days_9 (by decide) rfl (fun c_9 => ?_) (fun c_9 => ?_)
  · rw [nb_t] at c_9
    unfold sp_days at hq
    rw [if_pos c_9] at hq
    obtain ⟨j, hj, rfl⟩ := ix_of c_9 (by omega)
    rw [nat_nI (by omega)] at hq
    refine J_aload_n (i := 0) (n := 15) dX7_days_14 rfl rfl rfl ?_
    refine T_get (k := 0) (n := 18) wk_X7 dX7_days_15 wf_X7_7 (by decide) (by first | assumption | decide) rfl rfl ?_
    refine J_bipush (n := 20) dX7_days_18 kB_37 rfl ?_
    refine T_iald (c := 7) (k := 0) (N := 171) (n := 21) dX7_days_20 (by decide) (by first | assumption | decide) rfl (vp_in_nI (by decide) (by decide)) rfl ?_
    rw [nI_clamp (by decide), e37]
    refine J_iload_n (i := 1) (n := 22) dX7_days_21 rfl rfl rfl ?_
    refine J_iadd (n := 23) dX7_days_22 rfl ?_
    rw [nI_add]
    refine J_sipush (n := 26) dX7_days_23 kS_999 rfl ?_
    refine J_icmp_le (tgt := 32) (n := 29) dX7_days_26 (by decide) rfl (fun c_26 => ?_) (fun c_26 => ?_)
    · rw [nI_leI (by omega) (by omega)] at c_26
      rw [if_pos (by omega)] at hq
      refine J_aload_n (i := 0) (n := 33) dX7_days_32 rfl rfl rfl ?_
      refine J_callVx (n := 36) wS_X7_starts (c_M_starts (Q := fun r h => r = none ∧ ∃ v1, mN v1 S.1.1 ∧ mF v v1 ∧ h = hp G (gs_set σ 7 0 v1)) (d + 11) (fun v1 h1 _ h3 h4 => ⟨rfl, v1, ⟨ha.ext hB h1, by rw [h4]; exact hgl⟩, ⟨h3, h4, h1⟩, rfl⟩)) dX7_days_33 wm_X7_201 ⟨wM_X7_starts, wV_X7_starts⟩ rfl (T_recv (by decide) (by first | assumption | decide)) rfl rfl (Nat.le_of_ble_eq_true rfl) rfl (fun r h1 hq1 => ?_)
      obtain ⟨rfl, v1, hN1, hE1, rfl⟩ := hq1
      have hN0 : mN (gs_set σ 7 0 v1 7 0) S.1.1 := by rw [gs_same]; exact hN1
      have hm1 : mR v1 S := hm.f hE1
      refine J_aload_n (i := 0) (n := 37) dX7_days_36 rfl rfl rfl ?_
      refine J_iload_n (i := 1) (n := 38) dX7_days_37 rfl rfl rfl ?_
      refine J_callVx (n := 41) wS_X7_nameBehind (c_M_nameBehind (Q := fun r h => r = some (.int (nI ((pw_days S.1.1 j).2.2 9) - nI (S.1.1.2.2 9))) ∧ ∃ v2, mN v2 (pw_days S.1.1 j) ∧ mE v1 v2 ∧ h = hp G (gs_set σ 7 0 v2)) (d + 4) hN1 hO (by omega) ((congrFun (hE1.1 0 (by decide)) 36).trans e36) (fun v2 h1 h2 => ⟨rfl, v2, h1, h2, rfl⟩)) dX7_days_38 wm_X7_236 ⟨wM_X7_nameBehind, wV_X7_nameBehind⟩ rfl (T_recv (by decide) (by first | assumption | decide)) rfl rfl (Nat.le_of_ble_eq_true rfl) rfl (fun r h1 hq1 => ?_)
      obtain ⟨rfl, v2, hN2, hE2, rfl⟩ := hq1
      have key : ∀ v3 : gs_Ob, (∀ q, q < 57 → v3.1 0 q = v2.1 1 q) → (∀ q, 57 ≤ q → v3.1 0 q = v2.1 0 q) → (∀ k, k ≠ 0 → v3.1 k = v2.1 k) → v3.2 = v2.2 → mR v3 (pS_p S (pw_days S.1.1 j)) := by
        intro v3 k1 k2 k3 k4
        have hm2 : mR v2 S := hm1.e hE2
        have hst := hm2.st (i := (pw_days S.1.1 j, S.1.2)) (a := v3.1 0) (hN2.1.ext (pw_days_ok hO j).aB k1) (by
          refine hsn.ext hS.1.2.2.2.1 (fun q q1 q2 => ?_)
          rw [k1 q q2, hE2.2.2 q q1, hE1.2.2 q q2]) k2 (pw_days_f _ _ _ (by decide) (by decide) (by decide))
        refine hst.q ⟨fun k _ => ?_, fun k _ => by rw [k4]; rfl⟩
        by_cases e : k = 0
        · subst e; simp [gs_w, va_up]
        · rw [k3 k e]; simp [gs_w, va_up, e]
      refine J_istore_n (i := 2) (n := 42) (lv' := [(0, _), (1, _), (2, _)]) dX7_days_41 rfl (by decide) rfl rfl ?_
      refine J_aload_n (i := 0) (n := 43) dX7_days_42 rfl rfl rfl ?_
      refine J_callVx (n := 46) wS_X7_settles (c_M_settles (Q := fun r h => r = none ∧ ∃ v3, mR v3 (pS_p S (pw_days S.1.1 j)) ∧ h = hp G (gs_set σ 7 0 v3)) (d + 11) (fun v3 k1 k2 k3 k4 => ⟨rfl, v3, key v3 k1 k2 k3 k4, rfl⟩)) dX7_days_43 wm_X7_239 ⟨wM_X7_settles, wV_X7_settles⟩ rfl (T_recv (by decide) (by first | assumption | decide)) rfl rfl (Nat.le_of_ble_eq_true rfl) rfl (fun r h1 hq1 => ?_)
      obtain ⟨rfl, v3, hm3, rfl⟩ := hq1
      refine J_iload_n (i := 2) (n := 47) dX7_days_46 rfl rfl rfl ?_
      refine J_iret dX7_days_47 rfl (kN_i _) ?_
      exact hq _ hm3
    · rw [nI_leI (by omega) (by omega)] at c_26
      refine J_bipush (n := 31) dX7_days_29 kB_m3 rfl ?_
      refine J_iret dX7_days_31 rfl (kN_i _) ?_
      rw [if_neg (by omega)] at hq
      exact hq v hm
  · refine J_iconst (n := 13) dX7_days_12 kI_m1 rfl ?_
    refine J_iret dX7_days_13 rfl (kN_i _) ?_
    rw [nb_0] at c_9
    unfold sp_days at hq
    rw [c_9, if_neg (by decide)] at hq
    exact hq v hm

