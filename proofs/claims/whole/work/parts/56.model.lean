/-! ===== model: from where it was seen ===== -/
theorem mQ.w (v : gs_Ob) (k : Nat) (f : Nat → Int32) (hk : k = 1 ∨ k = 23 ∨ k = 24) : mQ v (gs_w v k f) := ⟨fun q hq => gs_wn v f (by omega), fun _ _ => rfl⟩
theorem coh_a {p : pw} (h : coh p) {k j e : Nat} (hk : k ≠ 2 ∨ p.2.1 j = false) : coh (pw_a p k j e) := by
  rcases hk with hk | hk
  · intro g hg h1
    show (if 2 = k ∧ g = j then e else p.1 2 g) = p.2.2 8
    rw [if_neg (fun q => hk q.1.symm)]
    exact h g hg h1
  · by_cases h2 : k = 2
    · subst h2; exact coh_at h hk
    · intro g hg h1
      show (if 2 = k ∧ g = j then e else p.1 2 g) = p.2.2 8
      rw [if_neg (fun q => h2 q.1.symm)]
      exact h g hg h1
def wer (v : gs_Ob) (p : pw) (n : Nat) : Prop := ∀ m, m < n → ∀ g, g < p.2.2 6 → v.1 23 (4 * m + g) = nI ((pw_days p m).1 2 g)
set_option maxHeartbeats 4000000 in
set_option maxRecDepth 100000 in
theorem j_so_13 {G : gx_G} {σ : gs_S} {Q : Option Value → gx_Hp → Prop} {S : pS} (d : Nat) {p : pw} {x1 x2 : Int32} (hO : pOk p) (hd9 : p.2.2 10 ≤ 999) (hcoh : coh p) (hg6 : p.2.2 6 = S.1.1.2.2 6) {v : gs_Ob} (hgl : S.1.1.2.2 6 ≤ 4) (k65 : ∀ v1, mR v1 S → wer v1 p 21 → v1.1 24 = v.1 24 → gx_J G mX7_isSoWith (d + 7) 0 0 Q 65 [(0, .ref (gs_a G 7 0 0)), (1, .int x1), (2, .int x2), (3, .int (nI 21))] [] (hp G (gs_set σ 7 0 v1))) : ∀ u n v1, 21 - n < u → n ≤ 21 → mR v1 S → mN v1 (pw_days p n) → wer v1 p n → v1.1 24 = v.1 24 → gx_J G mX7_isSoWith (d + 7) 0 0 Q 13 [(0, .ref (gs_a G 7 0 0)), (1, .int x1), (2, .int x2), (3, .int (nI n))] [] (hp G (gs_set σ 7 0 v1)) := by
  intro u
  induction u with
  | zero => intros; exact absurd (by assumption) (Nat.not_lt_zero _)
  | succ u ihu =>
    intro n v1 hu hn hm1 hN1 hwe h24
    have e6n : (pw_days p n).2.2 6 = p.2.2 6 := pw_days_f _ _ _ (by decide) (by decide) (by decide)
    have inn : n ≤ 20 → ∀ u2 g v1, 4 - g < u2 → g ≤ p.2.2 6 → mR v1 S → mN v1 (pw_days p n) → wer v1 p n → (∀ q, q < g → v1.1 23 (4 * n + q) = nI ((pw_days p n).1 2 q)) → v1.1 24 = v.1 24 → gx_J G mX7_isSoWith (d + 7) 0 0 Q 22 [(0, .ref (gs_a G 7 0 0)), (1, .int x1), (2, .int x2), (3, .int (nI n)), (4, .int (nI g))] [] (hp G (gs_set σ 7 0 v1)) := by
      intro hn20 u2
      induction u2 with
      | zero => intros; exact absurd (by assumption) (Nat.not_lt_zero _)
      | succ u2 ihu2 =>
        intro g v1 hu2 hg hm1 hN1 hwe hwg h24
        have hN0 : mN (gs_set σ 7 0 v1 7 0) (pw_days p n) := by rw [gs_same]; exact hN1
        have hgl1 : v1.2.1 3 = nI (p.2.2 6) := by rw [hg6]; exact hm1.1.2.2
        refine J_iload (i := 4) (n := 24) dX7_isSoWith_22 rfl rfl ?_
        refine J_aload_n (i := 0) (n := 25) dX7_isSoWith_24 rfl rfl rfl ?_
        refine T_get (k := 3) (n := 28) wk_X7 dX7_isSoWith_25 wf_X7_67 (by decide) (by decide) rfl rfl ?_
        rw [hgl1]
        refine J_icmp_ge (tgt := 54) (n := 31) dX7_isSoWith_28 (by decide) rfl (fun c_28 => ?_) (fun c_28 => ?_)
        · rw [nI_leI (by omega) (by omega)] at c_28
          refine J_aload_n (i := 0) (n := 55) dX7_isSoWith_54 rfl rfl rfl ?_
          refine J_iconst (n := 56) dX7_isSoWith_55 kI_1 rfl ?_
          refine J_callVx (n := 59) wS_X7_daysGo (c_M_daysGo (Q := fun r h => r = none ∧ ∃ v2, mN v2 (pw_days (pw_days p n) 1) ∧ mE v1 v2 ∧ h = hp G (gs_set σ 7 0 v2)) d (n := 1) hN1 (pw_days_ok hO n) (by rw [pw_days_day]; omega) (fun v2 h1 h2 => ⟨rfl, v2, h1, h2, rfl⟩)) dX7_isSoWith_56 wm_X7_188 ⟨wM_X7_daysGo, wV_X7_daysGo⟩ rfl (T_recv (by decide) (by decide)) rfl rfl (Nat.le_of_ble_eq_true rfl) rfl (fun r h1 hq1 => ?_)
          obtain ⟨rfl, v2, hN2, hE2, rfl⟩ := hq1
          refine J_inc (i := 3) (n := 62) (lv' := [(0, _), (1, _), (2, _), (3, _), (4, _)]) dX7_isSoWith_59 rfl (by decide) rfl rfl ?_
          refine J_goto (tgt := 13) dX7_isSoWith_62 (by decide) ?_
          refine J_sub (lv' := [(0, _), (1, _), (2, _), (3, _)]) (fun q hq => List.mem_append_left [(4, _)] hq) ?_
          refine ihu (n + 1) v2 (by omega) (by omega) (hm1.e hE2) (by rw [pw_days_add]; exact hN2) (fun m hm q hq0 => ?_) (by rw [hE2.1 24 (by decide)]; exact h24)
          rw [hE2.1 23 (by decide)]
          by_cases em : m = n
          · subst em; exact hwg q (by omega)
          · exact hwe m (by omega) q hq0
        · rw [nI_leI (by omega) (by omega)] at c_28
          refine J_aload_n (i := 0) (n := 32) dX7_isSoWith_31 rfl rfl rfl ?_
          refine T_get (k := 23) (n := 35) wk_X7 dX7_isSoWith_32 wf_X7_26 (by decide) (by decide) rfl rfl ?_
          refine J_iconst (n := 36) dX7_isSoWith_35 kI_4 rfl ?_
          refine J_iload_n (i := 3) (n := 37) dX7_isSoWith_36 rfl rfl rfl ?_
          refine J_imul (n := 38) dX7_isSoWith_37 rfl ?_
          rw [pk_mul]
          refine J_iload (i := 4) (n := 40) dX7_isSoWith_38 rfl rfl ?_
          refine J_iadd (n := 41) dX7_isSoWith_40 rfl ?_
          rw [nI_add]
          refine J_aload_n (i := 0) (n := 42) dX7_isSoWith_41 rfl rfl rfl ?_
          refine J_iload (i := 4) (n := 44) dX7_isSoWith_42 rfl rfl ?_
          refine J_callVr (n := 47) wS_X7_doorOf (c_M_doorOf (d + 4) hN0 (pw_days_ok hO n).aB (j := g) (by rw [e6n]; omega) ((coh_days hcoh n) g (by rw [e6n]; omega)) ⟨rfl, rfl⟩) dX7_isSoWith_44 wm_X7_160 ⟨wM_X7_doorOf, wV_X7_doorOf⟩ rfl (T_recv (by decide) (by decide)) rfl rfl (Nat.le_of_ble_eq_true rfl) rfl ?_
          refine T_iast (c := 7) (k := 23) (N := 84) (n := 48) dX7_isSoWith_47 (by decide) (by decide) (fun _ => rfl) (vp_in_nI (by omega) (by decide)) rfl ?_
          rw [nI_clamp (by omega)]
          refine J_inc (i := 4) (n := 51) (lv' := [(0, _), (1, _), (2, _), (3, _), (4, _)]) dX7_isSoWith_48 rfl (by decide) rfl rfl ?_
          refine J_goto (tgt := 22) dX7_isSoWith_51 (by decide) ?_
          refine ihu2 (g + 1) _ (by omega) (by omega) (hm1.q (mQ.w _ 23 _ (by omega))) ⟨by rw [gs_wn _ _ (by decide)]; exact hN1.1, hN1.2⟩ (fun m hm q hq0 => ?_) (fun q hq0 => ?_) (by rw [gs_wn _ _ (by decide)]; exact h24)
          · rw [gs_wk, pk_un (by omega)]; exact hwe m hm q hq0
          · by_cases eq : q = g
            · subst eq
              rw [gs_wk, pk_us]
            · rw [gs_wk, pk_un (by omega)]; exact hwg q (by omega)
    refine J_iload_n (i := 3) (n := 14) dX7_isSoWith_13 rfl rfl rfl ?_
    refine J_bipush (n := 16) dX7_isSoWith_14 kB_20 rfl ?_
    refine J_icmp_gt (tgt := 65) (n := 19) dX7_isSoWith_16 (by decide) rfl (fun c_16 => ?_) (fun c_16 => ?_)
    · rw [nI_ltI (by omega) (by omega)] at c_16
      have ee : n = 21 := by omega
      subst ee
      exact k65 v1 hm1 hwe h24
    · rw [nI_ltI (by omega) (by omega)] at c_16
      refine J_iconst (n := 20) dX7_isSoWith_19 kI_0 rfl ?_
      refine J_istore (i := 4) (n := 22) (lv' := [(0, _), (1, _), (2, _), (3, _), (4, _)]) dX7_isSoWith_20 (by decide) rfl rfl ?_
      exact inn (by omega) 5 0 v1 (by omega) (by omega) hm1 hN1 hwe (fun q hq0 => absurd hq0 (Nat.not_lt_zero _)) h24
set_option maxHeartbeats 4000000 in
set_option maxRecDepth 100000 in
theorem j_so_70 {G : gx_G} {σ : gs_S} {Q : Option Value → gx_Hp → Prop} {S : pS} (d : Nat) {p : pw} {x1 x2 : Int32} {v1 : gs_Ob} (hO : pOk p) (hg6 : p.2.2 6 = S.1.1.2.2 6) (hso : sOk S.1.2 (S.1.1.2.2 6)) (hm1 : mR v1 S) (hwe : wer v1 p 21) (hq : Q (some (.int (nI (sk S.1.2 p).toNat))) (hp G (gs_set σ 7 0 v1))) : ∀ u n, S.1.2.2 - n < u → n ≤ S.1.2.2 → gx_J G mX7_isSoWith (d + 7) 0 0 Q 70 [(0, .ref (gs_a G 7 0 0)), (1, .int x1), (2, .int x2), (3, .int (nI (asS S.1.2 p n).toNat)), (4, .int (nI n))] [] (hp G (gs_set σ 7 0 v1)) := by
  have h4 : p.2.2 6 ≤ 4 := hO.2.2.2.2.1
  have h6s := hso.1
  obtain ⟨e38, hsn⟩ := hm1.1.2.1
  intro u
  induction u with
  | zero => intros; exact absurd (by assumption) (Nat.not_lt_zero _)
  | succ u ihu =>
    intro n hu hn
    refine J_iload (i := 4) (n := 72) dX7_isSoWith_70 rfl rfl ?_
    refine J_aload_n (i := 0) (n := 73) dX7_isSoWith_72 rfl rfl rfl ?_
    refine T_get (k := 0) (n := 76) wk_X7 dX7_isSoWith_73 wf_X7_7 (by decide) (by decide) rfl rfl ?_
    refine J_bipush (n := 78) dX7_isSoWith_76 kB_38 rfl ?_
    refine T_iald (c := 7) (k := 0) (N := 171) (n := 79) dX7_isSoWith_78 (by decide) (by decide) rfl (vp_in_nI (by decide) (by decide)) rfl ?_
    rw [nI_clamp (by decide), e38]
    refine J_icmp_ge (tgt := 143) (n := 82) dX7_isSoWith_79 (by decide) rfl (fun c_79 => ?_) (fun c_79 => ?_)
    · rw [nI_leI (by omega) (by omega)] at c_79
      have ee : n = S.1.2.2 := by omega
      subst ee
      refine J_iload_n (i := 3) (n := 144) dX7_isSoWith_143 rfl rfl rfl ?_
      refine J_iret dX7_isSoWith_144 rfl (kN_b _) ?_
      exact hq
    · rw [nI_leI (by omega) (by omega)] at c_79
      obtain ⟨q20, qg, q11⟩ := hso.2 n (by omega)
      obtain ⟨s0, s1, s2⟩ := hsn n (by omega)
      have hwn := hwe (S.1.2.1 0 n) (by omega) (S.1.2.1 1 n) (by omega)
      have hat := (pw_days_ok hO (S.1.2.1 0 n)).2.1 (S.1.2.1 1 n) (by rw [pw_days_f _ _ _ (by decide) (by decide) (by decide)]; omega)
      refine J_bipush (n := 84) dX7_isSoWith_82 kB_39 rfl ?_
      refine J_iconst (n := 85) dX7_isSoWith_84 kI_3 rfl ?_
      refine J_iload (i := 4) (n := 87) dX7_isSoWith_85 rfl rfl ?_
      refine J_imul (n := 88) dX7_isSoWith_87 rfl ?_
      rw [pk_mul]
      refine J_iadd (n := 89) dX7_isSoWith_88 rfl ?_
      rw [nI_add]
      refine J_istore (i := 5) (n := 91) (lv' := [(0, _), (1, _), (2, _), (3, _), (4, _), (5, _)]) dX7_isSoWith_89 (by decide) rfl rfl ?_
      refine J_iload_n (i := 3) (n := 92) dX7_isSoWith_91 rfl rfl rfl ?_
      refine J_if_eq (tgt := 135) (n := 95) dX7_isSoWith_92 (by decide) rfl (fun c_92 => ?_) (fun c_92 => ?_)
      · refine J_iconst (n := 136) dX7_isSoWith_135 kI_0 rfl ?_
        refine J_istore_n (i := 3) (n := 137) (lv' := [(0, _), (1, _), (2, _), (3, _), (4, _), (5, _)]) dX7_isSoWith_136 rfl (by decide) rfl rfl ?_
        refine J_inc (i := 4) (n := 140) (lv' := [(0, _), (1, _), (2, _), (3, _), (4, _), (5, _)]) dX7_isSoWith_137 rfl (by decide) rfl rfl ?_
        refine J_goto (tgt := 70) dX7_isSoWith_140 (by decide) ?_
        refine J_sub (lv' := [(0, _), (1, _), (2, _), (3, _), (4, _)]) (fun q hq => List.mem_append_left [(5, _)] hq) ?_
        have h0 := ihu (n + 1) (by omega) (by omega)
        have hs : asS S.1.2 p (n + 1) = (asS S.1.2 p n && decide ((pw_days p (S.1.2.1 0 n)).1 2 (S.1.2.1 1 n) = S.1.2.1 2 n)) := rfl
        first
        | (rw [nb_0] at c_92
           rw [c_92, Bool.false_and] at hs
           rw [hs] at h0
           exact h0)
        | (rw [nb_t] at c_92
           rw [nI_eq (by omega) (by omega)] at c_128
           rw [c_92, Bool.true_and] at hs
           rcases Classical.em ((pw_days p (S.1.2.1 0 n)).1 2 (S.1.2.1 1 n) = S.1.2.1 2 n) with hz | hz
           · rw [decide_eq_true hz] at hs
             rw [hs] at h0
             first | exact absurd hz c_128 | exact h0
           · rw [decide_eq_false hz] at hs
             rw [hs] at h0
             first | exact absurd c_128 hz | exact h0)
      · refine J_aload_n (i := 0) (n := 96) dX7_isSoWith_95 rfl rfl rfl ?_
        refine T_get (k := 23) (n := 99) wk_X7 dX7_isSoWith_96 wf_X7_26 (by decide) (by decide) rfl rfl ?_
        refine J_iconst (n := 100) dX7_isSoWith_99 kI_4 rfl ?_
        refine J_aload_n (i := 0) (n := 101) dX7_isSoWith_100 rfl rfl rfl ?_
        refine T_get (k := 0) (n := 104) wk_X7 dX7_isSoWith_101 wf_X7_7 (by decide) (by decide) rfl rfl ?_
        refine J_iload (i := 5) (n := 106) dX7_isSoWith_104 rfl rfl ?_
        refine T_iald (c := 7) (k := 0) (N := 171) (n := 107) dX7_isSoWith_106 (by decide) (by decide) rfl (vp_in_nI (by omega) (by decide)) rfl ?_
        rw [nI_clamp (by omega), s0]
        refine J_imul (n := 108) dX7_isSoWith_107 rfl ?_
        rw [pk_mul]
        refine J_aload_n (i := 0) (n := 109) dX7_isSoWith_108 rfl rfl rfl ?_
        refine T_get (k := 0) (n := 112) wk_X7 dX7_isSoWith_109 wf_X7_7 (by decide) (by decide) rfl rfl ?_
        refine J_iload (i := 5) (n := 114) dX7_isSoWith_112 rfl rfl ?_
        refine J_iconst (n := 115) dX7_isSoWith_114 kI_1 rfl ?_
        refine J_iadd (n := 116) dX7_isSoWith_115 rfl ?_
        rw [nI_add]
        refine T_iald (c := 7) (k := 0) (N := 171) (n := 117) dX7_isSoWith_116 (by decide) (by decide) rfl (vp_in_nI (by omega) (by decide)) rfl ?_
        rw [nI_clamp (by omega), s1]
        refine J_iadd (n := 118) dX7_isSoWith_117 rfl ?_
        rw [nI_add]
        refine T_iald (c := 7) (k := 23) (N := 84) (n := 119) dX7_isSoWith_118 (by decide) (by decide) rfl (vp_in_nI (by omega) (by decide)) rfl ?_
        rw [nI_clamp (by omega), hwn]
        refine J_aload_n (i := 0) (n := 120) dX7_isSoWith_119 rfl rfl rfl ?_
        refine T_get (k := 0) (n := 123) wk_X7 dX7_isSoWith_120 wf_X7_7 (by decide) (by decide) rfl rfl ?_
        refine J_iload (i := 5) (n := 125) dX7_isSoWith_123 rfl rfl ?_
        refine J_iconst (n := 126) dX7_isSoWith_125 kI_2 rfl ?_
        refine J_iadd (n := 127) dX7_isSoWith_126 rfl ?_
        rw [nI_add]
        refine T_iald (c := 7) (k := 0) (N := 171) (n := 128) dX7_isSoWith_127 (by decide) (by decide) rfl (vp_in_nI (by omega) (by decide)) rfl ?_
        rw [nI_clamp (by omega), s2]
        refine J_icmp_ne (tgt := 135) (n := 131) dX7_isSoWith_128 (by decide) rfl (fun c_128 => ?_) (fun c_128 => ?_)
        · refine J_iconst (n := 136) dX7_isSoWith_135 kI_0 rfl ?_
          refine J_istore_n (i := 3) (n := 137) (lv' := [(0, _), (1, _), (2, _), (3, _), (4, _), (5, _)]) dX7_isSoWith_136 rfl (by decide) rfl rfl ?_
          refine J_inc (i := 4) (n := 140) (lv' := [(0, _), (1, _), (2, _), (3, _), (4, _), (5, _)]) dX7_isSoWith_137 rfl (by decide) rfl rfl ?_
          refine J_goto (tgt := 70) dX7_isSoWith_140 (by decide) ?_
          refine J_sub (lv' := [(0, _), (1, _), (2, _), (3, _), (4, _)]) (fun q hq => List.mem_append_left [(5, _)] hq) ?_
          have h0 := ihu (n + 1) (by omega) (by omega)
          have hs : asS S.1.2 p (n + 1) = (asS S.1.2 p n && decide ((pw_days p (S.1.2.1 0 n)).1 2 (S.1.2.1 1 n) = S.1.2.1 2 n)) := rfl
          first
          | (rw [nb_0] at c_92
             rw [c_92, Bool.false_and] at hs
             rw [hs] at h0
             exact h0)
          | (rw [nb_t] at c_92
             rw [nI_eq (by omega) (by omega)] at c_128
             rw [c_92, Bool.true_and] at hs
             rcases Classical.em ((pw_days p (S.1.2.1 0 n)).1 2 (S.1.2.1 1 n) = S.1.2.1 2 n) with hz | hz
             · rw [decide_eq_true hz] at hs
               rw [hs] at h0
               first | exact absurd hz c_128 | exact h0
             · rw [decide_eq_false hz] at hs
               rw [hs] at h0
               first | exact absurd c_128 hz | exact h0)
        · refine J_iconst (n := 132) dX7_isSoWith_131 kI_1 rfl ?_
          refine J_goto (tgt := 136) dX7_isSoWith_132 (by decide) ?_
          refine J_istore_n (i := 3) (n := 137) (lv' := [(0, _), (1, _), (2, _), (3, _), (4, _), (5, _)]) dX7_isSoWith_136 rfl (by decide) rfl rfl ?_
          refine J_inc (i := 4) (n := 140) (lv' := [(0, _), (1, _), (2, _), (3, _), (4, _), (5, _)]) dX7_isSoWith_137 rfl (by decide) rfl rfl ?_
          refine J_goto (tgt := 70) dX7_isSoWith_140 (by decide) ?_
          refine J_sub (lv' := [(0, _), (1, _), (2, _), (3, _), (4, _)]) (fun q hq => List.mem_append_left [(5, _)] hq) ?_
          have h0 := ihu (n + 1) (by omega) (by omega)
          have hs : asS S.1.2 p (n + 1) = (asS S.1.2 p n && decide ((pw_days p (S.1.2.1 0 n)).1 2 (S.1.2.1 1 n) = S.1.2.1 2 n)) := rfl
          first
          | (rw [nb_0] at c_92
             rw [c_92, Bool.false_and] at hs
             rw [hs] at h0
             exact h0)
          | (rw [nb_t] at c_92
             rw [nI_eq (by omega) (by omega)] at c_128
             rw [c_92, Bool.true_and] at hs
             rcases Classical.em ((pw_days p (S.1.2.1 0 n)).1 2 (S.1.2.1 1 n) = S.1.2.1 2 n) with hz | hz
             · rw [decide_eq_true hz] at hs
               rw [hs] at h0
               first | exact absurd hz c_128 | exact h0
             · rw [decide_eq_false hz] at hs
               rw [hs] at h0
               first | exact absurd c_128 hz | exact h0)
set_option maxHeartbeats 4000000 in
set_option maxRecDepth 100000 in
theorem c_M_isSoWith {G : gx_G} {σ : gs_S} {Q : Option Value → gx_Hp → Prop} {S : pS} {v : gs_Ob} (d : Nat) {j k e : Nat} (hS : SOk S) (hm : mR v S) (hj : j < S.1.1.2.2 6) (hk : (k = 0 ∧ e ≤ 3) ∨ (k = 1 ∧ e ≤ 11 ∧ S.1.1.2.1 j = false)) (hq : ∀ v1, mR v1 S → v1.1 24 = v.1 24 → wer v1 (pw_a S.1.1 (k + 1) j e) 21 → Q (some (.int (nI (sk S.1.2 (pw_a S.1.1 (k + 1) j e)).toNat))) (hp G (gs_set σ 7 0 v1))) : gx_K G yX7_isSoWith mX7_isSoWith (d + 7) 0 0 [.ref (gs_a G 7 0 0), .int (nI (12 + 4 * j + k)), .int (nI e)] (hp G (gs_set σ 7 0 v)) Q := by
  obtain ⟨⟨ha, hsn, hgl⟩, hkm, htp, hft, hsh⟩ := id hm
  have hO := hS.1.1
  have hB := hO.aB
  have h4 : S.1.1.2.2 6 ≤ 4 := hO.2.2.2.2.1
  have h6 : S.1.1.2.2 7 ≤ 6 := hO.2.2.2.2.2.1
  have hm11 : S.1.1.2.2 8 ≤ 11 := hO.2.2.2.2.2.2.1
  have hn9 : S.1.1.2.2 9 ≤ 9999 := hO.2.2.2.2.2.2.2
  have hd9 : S.1.1.2.2 10 ≤ 999 := hS.1.2.2.1
  have h160 : S.2.2.2.1.2 ≤ 160 := hS.2.2.1.1
  have e28 := ha.2.2.2.1
  have e29 := ha.2.2.2.2.1
  have e36 := ha.2.2.2.2.2.1
  have e37 := ha.2.2.2.2.2.2
  have g0 : gs_set σ 7 0 v 7 0 = v := gs_same _ _ _ _
  have hgl0 : (gs_set σ 7 0 v 7 0).2.1 3 = nI (S.1.1.2.2 6) := by rw [g0]; exact hgl
  have ha0 : aR ((gs_set σ 7 0 v 7 0).1 0) S.1.1 := by rw [g0]; exact ha
  have hpO : pOk (pw_a S.1.1 (k + 1) j e) := pw_a_ok hO (by omega)
  have hpc : coh (pw_a S.1.1 (k + 1) j e) := coh_a hS.1.2.1 (by rcases hk with ⟨rfl, -⟩ | ⟨-, -, h⟩; exact Or.inl (by decide); exact Or.inr h)
  refine gx_K.of' (lv := [(0, _), (1, _), (2, _)]) (by decide) rfl (by decide) (Nat.le_of_ble_eq_true rfl) rfl ?_
  refine J_aload_n (i := 0) (n := 1) dX7_isSoWith_0 rfl rfl rfl ?_
  refine J_callVx (n := 4) wS_X7_starts (c_M_starts (Q := fun r h => r = none ∧ ∃ v2, mN v2 S.1.1 ∧ mF v v2 ∧ h = hp G (gs_set σ 7 0 v2)) (d + 6) (fun v2 k1 _ k3 k4 => ⟨rfl, v2, ⟨hm.1.1.ext hB k1, by rw [k4]; exact hm.1.2.2⟩, ⟨k3, k4, k1⟩, rfl⟩)) dX7_isSoWith_1 wm_X7_201 ⟨wM_X7_starts, wV_X7_starts⟩ rfl (T_recv (by decide) (by decide)) rfl rfl (Nat.le_of_ble_eq_true rfl) rfl (fun r h1 hq1 => ?_)
  obtain ⟨rfl, v2, hN2, hF2, rfl⟩ := hq1
  refine J_aload_n (i := 0) (n := 5) dX7_isSoWith_4 rfl rfl rfl ?_
  refine T_get (k := 1) (n := 8) wk_X7 dX7_isSoWith_5 wf_X7_13 (by decide) (by decide) rfl rfl ?_
  refine J_iload_n (i := 1) (n := 9) dX7_isSoWith_8 rfl rfl rfl ?_
  refine J_iload_n (i := 2) (n := 10) dX7_isSoWith_9 rfl rfl rfl ?_
  refine T_iast (c := 7) (k := 1) (N := 57) (n := 11) dX7_isSoWith_10 (by decide) (by decide) (fun _ => rfl) (vp_in_nI (by omega) (by decide)) rfl ?_
  rw [nI_clamp (by omega)]
  have hQ3 := mQ.w1 v2 (upd (v2.1 1) (12 + 4 * j + k) (nI e))
  have hv3 : (gs_w v2 1 (upd (v2.1 1) (12 + 4 * j + k) (nI e))).2 = v2.2 := rfl
  have hN3 : mN (gs_w v2 1 (upd (v2.1 1) (12 + 4 * j + k) (nI e))) (pw_a S.1.1 (k + 1) j e) := ⟨by rw [gs_w1]; exact hN2.1.part hB (k := k) e hj (by omega), hN2.2⟩
  have h3n : ∀ q, q ≠ 1 → (gs_w v2 1 (upd (v2.1 1) (12 + 4 * j + k) (nI e))).1 q = v2.1 q := fun q hq0 => gs_wn _ _ hq0
  generalize gs_w v2 1 (upd (v2.1 1) (12 + 4 * j + k) (nI e)) = v3 at hQ3 hv3 hN3 h3n ⊢
  refine J_iconst (n := 12) dX7_isSoWith_11 kI_0 rfl ?_
  refine J_istore_n (i := 3) (n := 13) (lv' := [(0, _), (1, _), (2, _), (3, _)]) dX7_isSoWith_12 rfl (by decide) rfl rfl ?_
  refine j_so_13 (v := v) d hpO hd9 hpc rfl h4 (fun v4 hm4 hwe h24 => ?_) 22 0 v3 (by omega) (by omega) (hm.q (hF2.q.tr hQ3)) hN3 (fun m hm0 => absurd hm0 (Nat.not_lt_zero _)) (by rw [h3n 24 (by decide), hF2.1 24 (by decide)])
  refine J_iconst (n := 66) dX7_isSoWith_65 kI_1 rfl ?_
  refine J_istore_n (i := 3) (n := 67) (lv' := [(0, _), (1, _), (2, _), (3, _)]) dX7_isSoWith_66 rfl (by decide) rfl rfl ?_
  refine J_iconst (n := 68) dX7_isSoWith_67 kI_0 rfl ?_
  refine J_istore (i := 4) (n := 70) (lv' := [(0, _), (1, _), (2, _), (3, _), (4, _)]) dX7_isSoWith_68 (by decide) rfl rfl ?_
  exact j_so_70 d hpO rfl hS.1.2.2.2 hm4 hwe (hq v4 hm4 h24 hwe) (S.1.2.2 + 1) 0 (by omega) (by omega)

