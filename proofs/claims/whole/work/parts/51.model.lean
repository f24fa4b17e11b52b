theorem upd_id {f : Nat → Int32} {k : Nat} {x : Int32} (h : f k = x) : upd f k x = f := by
  funext q
  unfold upd
  split
  · next e => rw [e, h]
  · rfl
theorem gs_ww (v : gs_Ob) (k : Nat) (f g : Nat → Int32) : gs_w (gs_w v k f) k g = gs_w v k g := by unfold gs_w; rw [bx_uu]
theorem gs_wk (v : gs_Ob) (k : Nat) (f : Nat → Int32) : (gs_w v k f).1 k = f := by simp [gs_w, va_up]
theorem gs_wn (v : gs_Ob) {k q : Nat} (f : Nat → Int32) (h : q ≠ k) : (gs_w v k f).1 q = v.1 q := by simp [gs_w, va_up, h]
theorem aR.lo {a b : Nat → Int32} {p : pw} (h : aR a p) (hB : aB p) (hb : ∀ j, j < 38 → b j = a j) : aR b p := by
  obtain ⟨h1, h2, h3, h4, h5, h6, h7⟩ := h
  obtain ⟨b1, b2⟩ := hB
  refine ⟨fun j hj => by rw [hb j (by omega)]; exact h1 j hj, fun g hg => ?_, fun j hj => by rw [hb _ (by omega)]; exact h3 j hj, by rw [hb _ (by omega)]; exact h4, by rw [hb _ (by omega)]; exact h5, by rw [hb _ (by omega)]; exact h6, by rw [hb _ (by omega)]; exact h7⟩
  rw [hb _ (by omega), hb _ (by omega), hb _ (by omega), hb _ (by omega)]
  exact h2 g hg
theorem snR.add {a : Nat → Int32} {s : ps} (h : snR a s) (h6 : s.2 < 6) (n g e : Nat) : snR (upd (upd (upd (upd a (39 + 3 * s.2) (nI n)) (39 + 3 * s.2 + 1) (nI g)) (39 + 3 * s.2 + 2) (nI e)) 38 (nI (s.2 + 1))) (ps_add s n g e) := by
  refine ⟨by rw [pk_us]; rfl, fun j hj => ?_⟩
  have hj : j < s.2 + 1 := hj
  show _ = nI (if j = s.2 then (if 0 = 0 then n else if 0 = 1 then g else e) else s.1 0 j) ∧ _ = nI (if j = s.2 then (if 1 = 0 then n else if 1 = 1 then g else e) else s.1 1 j) ∧ _ = nI (if j = s.2 then (if 2 = 0 then n else if 2 = 1 then g else e) else s.1 2 j)
  by_cases ej : j = s.2
  · subst ej
    refine ⟨?_, ?_, ?_⟩
    · rw [pk_un (by omega), pk_un (by omega), pk_un (by omega), pk_us]; simp
    · rw [pk_un (by omega), pk_un (by omega), pk_us]; simp
    · rw [pk_un (by omega), pk_us]; simp
  · rw [if_neg ej, if_neg ej, if_neg ej, pk_un (by omega), pk_un (by omega), pk_un (by omega), pk_un (by omega), pk_un (by omega), pk_un (by omega), pk_un (by omega), pk_un (by omega), pk_un (by omega), pk_un (by omega), pk_un (by omega), pk_un (by omega)]
    exact h.2 j (by omega)
theorem mR.keep {v w : gs_Ob} {S : pS} (h : mR v S) (hS : SOk S) {k : Nat} (hk : k < 2) (h1 : ∀ q, q < 57 → w.1 0 (57 * (k + 1) + q) = v.1 0 q) (h2 : ∀ q, q < 57 * (k + 1) ∨ 57 * (k + 1) + 57 ≤ q → w.1 0 q = v.1 0 q) (h3 : ∀ j, j ≠ 0 → j ≠ 2 → w.1 j = v.1 j) (h4 : w.2 = v.2) (h5 : w.1 2 = upd (v.1 2) k (nI 1)) : mR w (pS_k S k) := by
  obtain ⟨k1, k2, k3, k4, k5⟩ := h
  have hB := hS.1.1.aB
  refine ⟨⟨k1.1.ext hB (fun j hj => h2 j (by omega)), k1.2.1.ext hS.1.2.2.2.1 (fun j _ hj => h2 j (by omega)), by rw [h4]; exact k1.2.2⟩, fun j hj => ?_, ?_, ?_, fun j hj => ?_⟩
  · show w.1 2 j = nI (if j = k then true else S.2.1 j).toNat ∧ ((if j = k then true else S.2.1 j) = true → aR (fun q => w.1 0 (57 * (j + 1) + q)) (if j = k then S.1 else S.2.2.1 j).1 ∧ snR (fun q => w.1 0 (57 * (j + 1) + q)) (if j = k then S.1 else S.2.2.1 j).2)
    rw [h5]
    by_cases ej : j = k
    · subst ej
      rw [if_pos rfl, if_pos rfl, pk_us]
      exact ⟨rfl, fun _ => ⟨k1.1.ext hB (fun q hq => h1 q hq), k1.2.1.ext hS.1.2.2.2.1 (fun q _ hq => h1 q hq)⟩⟩
    · rw [if_neg ej, if_neg ej, pk_un ej]
      refine ⟨(k2 j hj).1, fun hb => ?_⟩
      obtain ⟨i1, i2⟩ := (k2 j hj).2 hb
      have hI := (hS.2.1 j hj hb).1
      exact ⟨i1.ext hI.1.aB (fun q hq => h2 _ (by omega)), i2.ext hI.2.2.2.1 (fun q _ hq => h2 _ (by omega))⟩
  · rw [h3 10 (by decide) (by decide), h4]; exact k3
  · rw [h4]; exact k4
  · rw [h3 25 (by decide) (by decide), h3 26 (by decide) (by decide), h3 27 (by decide) (by decide)]; exact k5 j hj
theorem mR.back {v w : gs_Ob} {S : pS} (h : mR v S) (hS : SOk S) {k : Nat} (hk : k < 2) (hkb : S.2.1 k = true) (h1 : ∀ q, q < 57 → w.1 0 q = v.1 0 (57 * (k + 1) + q)) (h2 : ∀ q, 57 ≤ q → w.1 0 q = v.1 0 q) (h3 : ∀ j, j ≠ 0 → w.1 j = v.1 j) (h4 : w.2 = v.2) : mR w (S.2.2.1 k, S.2) := by
  obtain ⟨k1, k2, k3, k4, k5⟩ := h
  obtain ⟨hI, h6⟩ := hS.2.1 k hk hkb
  obtain ⟨i1, i2⟩ := (k2 k hk).2 hkb
  refine ⟨⟨i1.ext hI.1.aB (fun j hj => h1 j hj), i2.ext hI.2.2.2.1 (fun j _ hj => h1 j hj), by rw [h4]; show _ = nI ((S.2.2.1 k).1.2.2 6); rw [h6]; exact k1.2.2⟩, fun j hj => ?_, ?_, ?_, fun j hj => ?_⟩
  · rw [h3 2 (by decide), show (fun q => w.1 0 (57 * (j + 1) + q)) = fun q => v.1 0 (57 * (j + 1) + q) from funext fun q => h2 _ (by omega)]
    exact k2 j hj
  · rw [h3 10 (by decide), h4]; exact k3
  · rw [h4]; exact k4
  · rw [h3 25 (by decide), h3 26 (by decide), h3 27 (by decide)]; exact k5 j hj
theorem mR.sheet {v w : gs_Ob} {S : pS} (h : mR v S) {k : Nat} (hk : k < 4) {x : (Nat → Int32) × Nat × Nat} (h0 : ∀ j, j = 0 ∨ j = 2 ∨ j = 10 → w.1 j = v.1 j) (h4 : w.2 = v.2) (h25 : w.1 25 = upd (v.1 25) k (if x.2.1 = 9 then -4 else nI x.2.1)) (h26 : w.1 26 = upd (v.1 26) k (nI x.2.2)) (h27 : ∀ q, q < 40 → w.1 27 (40 * k + q) = x.1 q) (h27n : ∀ q, q < 40 * k ∨ 40 * k + 40 ≤ q → w.1 27 q = v.1 27 q) : mR w (pS_h S k x) := by
  obtain ⟨k1, k2, k3, k4, k5⟩ := h
  refine ⟨by rw [h0 0 (by decide), h4]; exact k1, fun j hj => by rw [h0 2 (by decide), h0 0 (by decide)]; exact k2 j hj, by rw [h0 10 (by decide), h4]; exact k3, by rw [h4]; exact k4, fun j hj => ?_⟩
  show (∀ q, q < 40 → w.1 27 (40 * j + q) = (if j = k then x else S.2.2.2.2.2 j).1 q) ∧ w.1 25 j = (if (if j = k then x else S.2.2.2.2.2 j).2.1 = 9 then -4 else nI (if j = k then x else S.2.2.2.2.2 j).2.1) ∧ w.1 26 j = nI (if j = k then x else S.2.2.2.2.2 j).2.2
  by_cases ej : j = k
  · subst ej
    rw [if_pos rfl, h25, h26, pk_us, pk_us]
    exact ⟨h27, rfl, rfl⟩
  · rw [if_neg ej, h25, h26, pk_un ej, pk_un ej]
    obtain ⟨c1, c2, c3⟩ := k5 j hj
    exact ⟨fun q hq => by rw [h27n _ (by omega)]; exact c1 q hq, c2, c3⟩
set_option maxHeartbeats 4000000 in
set_option maxRecDepth 100000 in
theorem c_N_see {G : gx_G} {σ : gs_S} {Q : Option Value → gx_Hp → Prop} {S : pS} {v : gs_Ob} (d : Nat) (x g e : Int32) (hS : SOk S) (hm : mR v S) (hq : ∀ v1, mR v1 (sp_see S x g e).2 → Q (some (.int (sp_see S x g e).1)) (hp G (gs_set σ 7 0 v1))) : gx_K G yX7_see mX7_see (d + 12) 0 0 [.ref (gs_a G 7 0 0), .int x, .int g, .int e] (hp G (gs_set σ 7 0 v)) Q := by
  obtain ⟨⟨ha, hsn, hgl⟩, hkm, htp, hft, hsh⟩ := id hm
  have hO := hS.1.1
  have hB := hO.aB
  have h4 : S.1.1.2.2 6 ≤ 4 := hO.2.2.2.2.1
  have h6 : S.1.1.2.2 7 ≤ 6 := hO.2.2.2.2.2.1
  have hm11 : S.1.1.2.2 8 ≤ 11 := hO.2.2.2.2.2.2.1
  have hn9 : S.1.1.2.2 9 ≤ 9999 := hO.2.2.2.2.2.2.2
  have hd9 : S.1.1.2.2 10 ≤ 999 := hS.1.2.2.1
  have h160 : S.2.2.2.1.2 ≤ 160 := hS.2.2.1.1
  have e28 := ha.2.2.2.1
  have e29 := ha.2.2.2.2.1
  have e36 := ha.2.2.2.2.2.1
  have e37 := ha.2.2.2.2.2.2
  have g0 : gs_set σ 7 0 v 7 0 = v := gs_same _ _ _ _
  have hgl0 : (gs_set σ 7 0 v 7 0).2.1 3 = nI (S.1.1.2.2 6) := by rw [g0]; exact hgl
  have ha0 : aR ((gs_set σ 7 0 v 7 0).1 0) S.1.1 := by rw [g0]; exact ha
  have h6s : S.1.2.2 ≤ 6 := hS.1.2.2.2.1
  refine gx_K.of' (lv := [(0, _), (1, _), (2, _), (3, _)]) (by decide) rfl (by decide) (Nat.le_of_ble_eq_true rfl) rfl ?_
  refine J_iload_n (i := 1) (n := 1) dX7_see_0 rfl rfl rfl ?_
  refine J_i2l (n := 2) dX7_see_1 rfl ?_
  refine J_lconst (n := 3) dX7_see_2 kL_0 rfl ?_
  refine J_ldc2 (n := 6) dX7_see_3 wd_X7_224 rfl ?_
  refine J_callSr (n := 9) wS_X7_in (c_M_in (d + 11) x 20 (by decide) ⟨rfl, rfl⟩) dX7_see_6 wm_X7_72 wT_X7_in rfl rfl (Nat.le_of_ble_eq_true rfl) rfl ?_
  refine J_if_eq (tgt := 27) (n := 12) dX7_see_9 (by decide) rfl (fun c_9 => ?_) (fun c_9 => ?_)
  · refine J_iconst (n := 28) dX7_see_27 kI_m1 rfl ?_
    refine J_iret dX7_see_28 rfl (kN_i _) ?_
    unfold sp_see at hq
    rw [if_neg (by
      first
      | (rw [nb_0] at c_9; rw [c_9, Bool.false_and]; decide)
      | (rw [nb_0] at c_17; rw [show isG S g = false from c_17, Bool.false_and, Bool.and_false]; decide)
      | (rw [nb_0] at c_24; rw [c_24, Bool.and_false, Bool.and_false]; decide))] at hq
    exact hq v hm
  · refine J_aload_n (i := 0) (n := 13) dX7_see_12 rfl rfl rfl ?_
    refine J_iload_n (i := 2) (n := 14) dX7_see_13 rfl rfl rfl ?_
    refine J_callVr (n := 17) wS_X7_isGlove (c_M_isGlove (d + 10) g (S.1.1.2.2 6) hgl0 (by omega) ⟨rfl, rfl⟩) dX7_see_14 wm_X7_210 ⟨wM_X7_isGlove, wV_X7_isGlove⟩ rfl (T_recv (by decide) (by first | assumption | decide)) rfl rfl (Nat.le_of_ble_eq_true rfl) rfl ?_
    refine J_if_eq (tgt := 27) (n := 20) dX7_see_17 (by decide) rfl (fun c_17 => ?_) (fun c_17 => ?_)
    · refine J_iconst (n := 28) dX7_see_27 kI_m1 rfl ?_
      refine J_iret dX7_see_28 rfl (kN_i _) ?_
      unfold sp_see at hq
      rw [if_neg (by
        first
        | (rw [nb_0] at c_9; rw [c_9, Bool.false_and]; decide)
        | (rw [nb_0] at c_17; rw [show isG S g = false from c_17, Bool.false_and, Bool.and_false]; decide)
        | (rw [nb_0] at c_24; rw [c_24, Bool.and_false, Bool.and_false]; decide))] at hq
      exact hq v hm
    · refine J_iload_n (i := 3) (n := 21) dX7_see_20 rfl rfl rfl ?_
      refine J_callSr (n := 24) wS_X7_isDoor (c_M_isDoor (d + 10) e ⟨rfl, rfl⟩) dX7_see_21 wm_X7_213 wT_X7_isDoor rfl rfl (Nat.le_of_ble_eq_true rfl) rfl ?_
      refine J_if_ne (tgt := 29) (n := 27) dX7_see_24 (by decide) rfl (fun c_24 => ?_) (fun c_24 => ?_)
      · rw [nb_t] at c_9 c_17 c_24
        unfold sp_see at hq
        rw [if_pos (by rw [c_9, show isG S g = true from c_17, c_24]; rfl)] at hq
        obtain ⟨n, hn20, rfl⟩ := ix_of c_9 (by decide)
        obtain ⟨j, hj, rfl⟩ := isG_of (S := S) c_17 hO
        obtain ⟨e, he11, rfl⟩ := ix_of c_24 (by decide)
        rw [nat_nI (by omega), nat_nI (by omega), nat_nI (by omega)] at hq
        refine J_aload_n (i := 0) (n := 30) dX7_see_29 rfl rfl rfl ?_
        refine T_get (k := 0) (n := 33) wk_X7 dX7_see_30 wf_X7_7 (by decide) (by first | assumption | decide) rfl rfl ?_
        refine J_bipush (n := 35) dX7_see_33 kB_38 rfl ?_
        refine T_iald (c := 7) (k := 0) (N := 171) (n := 36) dX7_see_35 (by decide) (by first | assumption | decide) rfl (vp_in_nI (by decide) (by decide)) rfl ?_
        rw [nI_clamp (by decide), hsn.1]
        refine J_bipush (n := 38) dX7_see_36 kB_6 rfl ?_
        refine J_icmp_ne (tgt := 44) (n := 41) dX7_see_38 (by decide) rfl (fun c_38 => ?_) (fun c_38 => ?_)
        · rw [nI_eq (by omega) (by omega)] at c_38
          rw [if_neg (by omega)] at hq
          refine J_bipush (n := 46) dX7_see_44 kB_39 rfl ?_
          refine J_iconst (n := 47) dX7_see_46 kI_3 rfl ?_
          refine J_aload_n (i := 0) (n := 48) dX7_see_47 rfl rfl rfl ?_
          refine T_get (k := 0) (n := 51) wk_X7 dX7_see_48 wf_X7_7 (by decide) (by first | assumption | decide) rfl rfl ?_
          refine J_bipush (n := 53) dX7_see_51 kB_38 rfl ?_
          refine T_iald (c := 7) (k := 0) (N := 171) (n := 54) dX7_see_53 (by decide) (by first | assumption | decide) rfl (vp_in_nI (by decide) (by decide)) rfl ?_
          rw [nI_clamp (by decide), hsn.1]
          refine J_imul (n := 55) dX7_see_54 rfl ?_
          rw [pk_mul]
          refine J_iadd (n := 56) dX7_see_55 rfl ?_
          rw [nI_add]
          refine J_istore (i := 4) (n := 58) (lv' := [(0, _), (1, _), (2, _), (3, _), (4, _)]) dX7_see_56 (by decide) rfl rfl ?_
          refine J_aload_n (i := 0) (n := 59) dX7_see_58 rfl rfl rfl ?_
          refine T_get (k := 0) (n := 62) wk_X7 dX7_see_59 wf_X7_7 (by decide) (by first | assumption | decide) rfl rfl ?_
          refine J_iload (i := 4) (n := 64) dX7_see_62 rfl rfl ?_
          refine J_iload_n (i := 1) (n := 65) dX7_see_64 rfl rfl rfl ?_
          refine T_iast (c := 7) (k := 0) (N := 171) (n := 66) dX7_see_65 (by decide) (by first | assumption | decide) (fun _ => rfl) (vp_in_nI (by omega) (by decide)) rfl ?_
          rw [nI_clamp (by omega)]
          refine J_aload_n (i := 0) (n := 67) dX7_see_66 rfl rfl rfl ?_
          refine T_get (k := 0) (n := 70) wk_X7 dX7_see_67 wf_X7_7 (by decide) (by first | assumption | decide) rfl rfl ?_
          refine J_iload (i := 4) (n := 72) dX7_see_70 rfl rfl ?_
          refine J_iconst (n := 73) dX7_see_72 kI_1 rfl ?_
          refine J_iadd (n := 74) dX7_see_73 rfl ?_
          rw [nI_add]
          refine J_iload_n (i := 2) (n := 75) dX7_see_74 rfl rfl rfl ?_
          refine T_iast (c := 7) (k := 0) (N := 171) (n := 76) dX7_see_75 (by decide) (by first | assumption | decide) (fun _ => rfl) (vp_in_nI (by omega) (by decide)) rfl ?_
          rw [nI_clamp (by omega), gs_wk, gs_ww]
          refine J_aload_n (i := 0) (n := 77) dX7_see_76 rfl rfl rfl ?_
          refine T_get (k := 0) (n := 80) wk_X7 dX7_see_77 wf_X7_7 (by decide) (by first | assumption | decide) rfl rfl ?_
          refine J_iload (i := 4) (n := 82) dX7_see_80 rfl rfl ?_
          refine J_iconst (n := 83) dX7_see_82 kI_2 rfl ?_
          refine J_iadd (n := 84) dX7_see_83 rfl ?_
          rw [nI_add]
          refine J_iload_n (i := 3) (n := 85) dX7_see_84 rfl rfl rfl ?_
          refine T_iast (c := 7) (k := 0) (N := 171) (n := 86) dX7_see_85 (by decide) (by first | assumption | decide) (fun _ => rfl) (vp_in_nI (by omega) (by decide)) rfl ?_
          rw [nI_clamp (by omega), gs_wk, gs_ww]
          refine J_aload_n (i := 0) (n := 87) dX7_see_86 rfl rfl rfl ?_
          refine T_get (k := 0) (n := 90) wk_X7 dX7_see_87 wf_X7_7 (by decide) (by first | assumption | decide) rfl rfl ?_
          refine J_bipush (n := 92) dX7_see_90 kB_38 rfl ?_
          refine J_dup2 (n := 93) dX7_see_92 rfl rfl rfl ?_
          refine T_iald (c := 7) (k := 0) (N := 171) (n := 94) dX7_see_93 (by decide) (by first | assumption | decide) rfl (vp_in_nI (by decide) (by decide)) rfl ?_
          rw [nI_clamp (by decide), gs_wk, pk_un (by omega), pk_un (by omega), pk_un (by omega), hsn.1]
          refine J_iconst (n := 95) dX7_see_94 kI_1 rfl ?_
          refine J_iadd (n := 96) dX7_see_95 rfl ?_
          rw [nI_add]
          refine T_iast (c := 7) (k := 0) (N := 171) (n := 97) dX7_see_96 (by decide) (by first | assumption | decide) (fun _ => rfl) (vp_in_nI (by decide) (by decide)) rfl ?_
          rw [nI_clamp (by decide), gs_wk, gs_ww]
          refine J_aload_n (i := 0) (n := 98) dX7_see_97 rfl rfl rfl ?_
          refine T_get (k := 0) (n := 101) wk_X7 dX7_see_98 wf_X7_7 (by decide) (by first | assumption | decide) rfl rfl ?_
          refine J_bipush (n := 103) dX7_see_101 kB_38 rfl ?_
          refine T_iald (c := 7) (k := 0) (N := 171) (n := 104) dX7_see_103 (by decide) (by first | assumption | decide) rfl (vp_in_nI (by decide) (by decide)) rfl ?_
          rw [nI_clamp (by decide), gs_wk, pk_us]
          refine J_iret dX7_see_104 rfl (kN_i _) ?_
          exact hq _ (hm.st (i := (S.1.1, ps_add S.1.2 n j e)) (ha.lo hB (fun q hq0 => by rw [pk_un (by omega), pk_un (by omega), pk_un (by omega), pk_un (by omega)])) (hsn.add (by omega) n j e) (fun q hq0 => by rw [pk_un (by omega), pk_un (by omega), pk_un (by omega), pk_un (by omega)]) rfl)
        · rw [nI_eq (by omega) (by omega)] at c_38
          rw [if_pos (by omega)] at hq
          refine J_bipush (n := 43) dX7_see_41 kB_m3 rfl ?_
          refine J_iret dX7_see_43 rfl (kN_i _) ?_
          exact hq v hm
      · refine J_iconst (n := 28) dX7_see_27 kI_m1 rfl ?_
        refine J_iret dX7_see_28 rfl (kN_i _) ?_
        unfold sp_see at hq
        rw [if_neg (by
          first
          | (rw [nb_0] at c_9; rw [c_9, Bool.false_and]; decide)
          | (rw [nb_0] at c_17; rw [show isG S g = false from c_17, Bool.false_and, Bool.and_false]; decide)
          | (rw [nb_0] at c_24; rw [c_24, Bool.and_false, Bool.and_false]; decide))] at hq
        exact hq v hm

set_option maxHeartbeats 4000000 in
set_option maxRecDepth 100000 in
theorem c_N_forget {G : gx_G} {σ : gs_S} {Q : Option Value → gx_Hp → Prop} {S : pS} {v : gs_Ob} (d : Nat) (n : Int32) (hS : SOk S) (hm : mR v S) (hq : ∀ v1, mR v1 (sp_forget S n).2 → Q (some (.int (sp_forget S n).1)) (hp G (gs_set σ 7 0 v1))) : gx_K G yX7_forget mX7_forget (d + 12) 0 0 [.ref (gs_a G 7 0 0), .int n] (hp G (gs_set σ 7 0 v)) Q := by
  obtain ⟨⟨ha, hsn, hgl⟩, hkm, htp, hft, hsh⟩ := id hm
  have hO := hS.1.1
  have hB := hO.aB
  have h4 : S.1.1.2.2 6 ≤ 4 := hO.2.2.2.2.1
  have h6 : S.1.1.2.2 7 ≤ 6 := hO.2.2.2.2.2.1
  have hm11 : S.1.1.2.2 8 ≤ 11 := hO.2.2.2.2.2.2.1
  have hn9 : S.1.1.2.2 9 ≤ 9999 := hO.2.2.2.2.2.2.2
  have hd9 : S.1.1.2.2 10 ≤ 999 := hS.1.2.2.1
  have h160 : S.2.2.2.1.2 ≤ 160 := hS.2.2.1.1
  have e28 := ha.2.2.2.1
  have e29 := ha.2.2.2.2.1
  have e36 := ha.2.2.2.2.2.1
  have e37 := ha.2.2.2.2.2.2
  have g0 : gs_set σ 7 0 v 7 0 = v := gs_same _ _ _ _
  have hgl0 : (gs_set σ 7 0 v 7 0).2.1 3 = nI (S.1.1.2.2 6) := by rw [g0]; exact hgl
  have ha0 : aR ((gs_set σ 7 0 v 7 0).1 0) S.1.1 := by rw [g0]; exact ha
  have h6s : S.1.2.2 ≤ 6 := hS.1.2.2.2.1
  refine gx_K.of' (lv := [(0, _), (1, _)]) (by decide) rfl (by decide) (Nat.le_of_ble_eq_true rfl) rfl ?_
  refine J_iload_n (i := 1) (n := 1) dX7_forget_0 rfl rfl rfl ?_
  refine J_i2l (n := 2) dX7_forget_1 rfl ?_
  refine J_lconst (n := 3) dX7_forget_2 kL_0 rfl ?_
  refine J_aload_n (i := 0) (n := 4) dX7_forget_3 rfl rfl rfl ?_
  refine T_get (k := 0) (n := 7) wk_X7 dX7_forget_4 wf_X7_7 (by decide) (by first | assumption | decide) rfl rfl ?_
  refine J_bipush (n := 9) dX7_forget_7 kB_38 rfl ?_
  refine T_iald (c := 7) (k := 0) (N := 171) (n := 10) dX7_forget_9 (by decide) (by first | assumption | decide) rfl (vp_in_nI (by decide) (by decide)) rfl ?_
  rw [nI_clamp (by decide), hsn.1]
  refine J_i2l (n := 11) dX7_forget_10 rfl ?_
  rw [nI_l (by omega)]
  refine J_callSr (n := 14) wS_X7_in (c_M_in (d + 11) n S.1.2.2 (by omega) ⟨rfl, rfl⟩) dX7_forget_11 wm_X7_72 wT_X7_in rfl rfl (Nat.le_of_ble_eq_true rfl) rfl ?_
  refine J_if_eq (tgt := 27) (n := 17) dX7_forget_14 (by decide) rfl (fun c_14 => ?_) (fun c_14 => ?_)
  · refine J_iconst (n := 28) dX7_forget_27 kI_m1 rfl ?_
    refine J_iret dX7_forget_28 rfl (kN_i _) ?_
    first
    | exact hq _ (hm.st (i := (S.1.1, (S.1.2.1, j))) (ha.lo hB (fun q hq0 => pk_un (by omega))) ⟨by rw [pk_us], fun q hq0 => by
        have hq0 : q < j := hq0
        rw [pk_un (by omega), pk_un (by omega), pk_un (by omega)]
        exact hsn.2 q (by omega)⟩ (fun q hq0 => pk_un (by omega)) rfl)
    | (rw [nb_0] at c_14
       unfold sp_forget at hq
       rw [c_14, if_neg (by decide)] at hq
       exact hq v hm)
  · rw [nb_t] at c_14
    unfold sp_forget at hq
    rw [if_pos c_14] at hq
    obtain ⟨j, hj, rfl⟩ := ix_of c_14 (by omega)
    rw [nat_nI (by omega)] at hq
    refine J_aload_n (i := 0) (n := 18) dX7_forget_17 rfl rfl rfl ?_
    refine J_bipush (n := 20) dX7_forget_18 kB_38 rfl ?_
    refine J_iload_n (i := 1) (n := 21) dX7_forget_20 rfl rfl rfl ?_
    refine J_callVr (n := 24) wS_X7_becomes (c_M_becomes (d + 11) _ (by decide) ⟨rfl, rfl⟩) dX7_forget_21 wm_X7_229 ⟨wM_X7_becomes, wV_X7_becomes⟩ rfl (T_recv (by decide) (by first | assumption | decide)) rfl rfl (Nat.le_of_ble_eq_true rfl) rfl ?_
    rw [hsn.1]
    refine J_goto (tgt := 28) dX7_forget_24 (by decide) ?_
    refine J_iret dX7_forget_28 rfl (kN_i _) ?_
    first
    | exact hq _ (hm.st (i := (S.1.1, (S.1.2.1, j))) (ha.lo hB (fun q hq0 => pk_un (by omega))) ⟨by rw [pk_us], fun q hq0 => by
        have hq0 : q < j := hq0
        rw [pk_un (by omega), pk_un (by omega), pk_un (by omega)]
        exact hsn.2 q (by omega)⟩ (fun q hq0 => pk_un (by omega)) rfl)
    | (rw [nb_0] at c_14
       unfold sp_forget at hq
       rw [c_14, if_neg (by decide)] at hq
       exact hq v hm)

set_option maxHeartbeats 4000000 in
set_option maxRecDepth 100000 in
theorem c_M_copies {G : gx_G} {σ : gs_S} {Q : Option Value → gx_Hp → Prop} {v : gs_Ob} (d : Nat) {a b : Nat} (h1 : a + 57 ≤ 171) (h2 : b + 57 ≤ 171) (h3 : a + 57 ≤ b ∨ b + 57 ≤ a) (hq : ∀ v1 : gs_Ob, (∀ q, q < 57 → v1.1 0 (a + q) = v.1 0 (b + q)) → (∀ q, q < a ∨ a + 57 ≤ q → v1.1 0 q = v.1 0 q) → (∀ k, k ≠ 0 → v1.1 k = v.1 k) → v1.2 = v.2 → Q none (hp G (gs_set σ 7 0 v1))) : gx_K G yX7_copies mX7_copies d 0 0 [.ref (gs_a G 7 0 0), .int (nI a), .int (nI b)] (hp G (gs_set σ 7 0 v)) Q := by
  have loop : ∀ u e v1, 57 - e < u → e ≤ 57 → (∀ q, q < e → v1.1 0 (a + q) = v.1 0 (b + q)) → (∀ q, q < a ∨ a + e ≤ q → v1.1 0 q = v.1 0 q) → (∀ k, k ≠ 0 → v1.1 k = v.1 k) → v1.2 = v.2 → gx_J G mX7_copies d 0 0 Q 2 [(0, .ref (gs_a G 7 0 0)), (1, .int (nI a)), (2, .int (nI b)), (3, .int (nI e))] [] (hp G (gs_set σ 7 0 v1)) := by
    intro u
    induction u with
    | zero => intros; exact absurd (by assumption) (Nat.not_lt_zero _)
    | succ u ih =>
      intro e v1 hu he k1 k2 k3 k4
      refine J_iload_n (i := 3) (n := 3) dX7_copies_2 rfl rfl rfl ?_
      refine J_bipush (n := 5) dX7_copies_3 kB_57 rfl ?_
      refine J_icmp_ge (tgt := 30) (n := 8) dX7_copies_5 (by decide) rfl (fun c_5 => ?_) (fun c_5 => ?_)
      · refine J_vret dX7_copies_30 rfl ?_
        rw [nI_leI (by omega) (by omega)] at c_5
        have ee : e = 57 := by omega
        subst ee
        exact hq _ k1 k2 k3 k4
      · rw [nI_leI (by omega) (by omega)] at c_5
        refine J_aload_n (i := 0) (n := 9) dX7_copies_8 rfl rfl rfl ?_
        refine T_get (k := 0) (n := 12) wk_X7 dX7_copies_9 wf_X7_7 (by decide) (by first | assumption | decide) rfl rfl ?_
        refine J_iload_n (i := 1) (n := 13) dX7_copies_12 rfl rfl rfl ?_
        refine J_iload_n (i := 3) (n := 14) dX7_copies_13 rfl rfl rfl ?_
        refine J_iadd (n := 15) dX7_copies_14 rfl ?_
        rw [nI_add]
        refine J_aload_n (i := 0) (n := 16) dX7_copies_15 rfl rfl rfl ?_
        refine T_get (k := 0) (n := 19) wk_X7 dX7_copies_16 wf_X7_7 (by decide) (by first | assumption | decide) rfl rfl ?_
        refine J_iload_n (i := 2) (n := 20) dX7_copies_19 rfl rfl rfl ?_
        refine J_iload_n (i := 3) (n := 21) dX7_copies_20 rfl rfl rfl ?_
        refine J_iadd (n := 22) dX7_copies_21 rfl ?_
        rw [nI_add]
        refine T_iald (c := 7) (k := 0) (N := 171) (n := 23) dX7_copies_22 (by decide) (by first | assumption | decide) rfl (vp_in_nI (by omega) (by decide)) rfl ?_
        rw [nI_clamp (by omega), k2 _ (by omega)]
        refine T_iast (c := 7) (k := 0) (N := 171) (n := 24) dX7_copies_23 (by decide) (by first | assumption | decide) (fun _ => rfl) (vp_in_nI (by omega) (by decide)) rfl ?_
        rw [nI_clamp (by omega)]
        refine J_inc (i := 3) (n := 27) (lv' := [(0, _), (1, _), (2, _), (3, _)]) dX7_copies_24 rfl (by decide) rfl rfl ?_
        refine J_goto (tgt := 2) dX7_copies_27 (by decide) ?_
        refine ih (e + 1) _ (by omega) (by omega) (fun q hq0 => ?_) (fun q hq0 => ?_) (fun k hk => by rw [gs_wn _ _ hk]; exact k3 k hk) k4
        · rw [gs_wk]
          by_cases eq : q = e
          · subst eq; rw [pk_us]
          · rw [pk_un (by omega)]; exact k1 q (by omega)
        · rw [gs_wk, pk_un (by omega)]; exact k2 q (by omega)
  refine gx_K.of' (lv := [(0, _), (1, _), (2, _)]) (by decide) rfl (by decide) (Nat.le_of_ble_eq_true rfl) rfl ?_
  refine J_iconst (n := 1) dX7_copies_0 kI_0 rfl ?_
  refine J_istore_n (i := 3) (n := 2) (lv' := [(0, _), (1, _), (2, _), (3, _)]) dX7_copies_1 rfl (by decide) rfl rfl ?_
  exact loop 58 0 v (by omega) (by omega) (fun q hq0 => absurd hq0 (Nat.not_lt_zero _)) (fun _ _ => rfl) (fun _ _ => rfl) rfl

set_option maxHeartbeats 4000000 in
set_option maxRecDepth 100000 in
theorem c_N_keep {G : gx_G} {σ : gs_S} {Q : Option Value → gx_Hp → Prop} {S : pS} {v : gs_Ob} (d : Nat) (x : Int32) (hS : SOk S) (hm : mR v S) (hq : ∀ v1, mR v1 (sp_keep S x).2 → Q (some (.int (sp_keep S x).1)) (hp G (gs_set σ 7 0 v1))) : gx_K G yX7_keep mX7_keep (d + 12) 0 0 [.ref (gs_a G 7 0 0), .int x] (hp G (gs_set σ 7 0 v)) Q := by
  obtain ⟨⟨ha, hsn, hgl⟩, hkm, htp, hft, hsh⟩ := id hm
  have hO := hS.1.1
  have hB := hO.aB
  have h4 : S.1.1.2.2 6 ≤ 4 := hO.2.2.2.2.1
  have h6 : S.1.1.2.2 7 ≤ 6 := hO.2.2.2.2.2.1
  have hm11 : S.1.1.2.2 8 ≤ 11 := hO.2.2.2.2.2.2.1
  have hn9 : S.1.1.2.2 9 ≤ 9999 := hO.2.2.2.2.2.2.2
  have hd9 : S.1.1.2.2 10 ≤ 999 := hS.1.2.2.1
  have h160 : S.2.2.2.1.2 ≤ 160 := hS.2.2.1.1
  have e28 := ha.2.2.2.1
  have e29 := ha.2.2.2.2.1
  have e36 := ha.2.2.2.2.2.1
  have e37 := ha.2.2.2.2.2.2
  have g0 : gs_set σ 7 0 v 7 0 = v := gs_same _ _ _ _
  have hgl0 : (gs_set σ 7 0 v 7 0).2.1 3 = nI (S.1.1.2.2 6) := by rw [g0]; exact hgl
  have ha0 : aR ((gs_set σ 7 0 v 7 0).1 0) S.1.1 := by rw [g0]; exact ha
  refine gx_K.of' (lv := [(0, _), (1, _)]) (by decide) rfl (by decide) (Nat.le_of_ble_eq_true rfl) rfl ?_
  refine J_iload_n (i := 1) (n := 1) dX7_keep_0 rfl rfl rfl ?_
  refine J_i2l (n := 2) dX7_keep_1 rfl ?_
  refine J_lconst (n := 3) dX7_keep_2 kL_0 rfl ?_
  refine J_lconst (n := 4) dX7_keep_3 kL_1 rfl ?_
  refine J_callSr (n := 7) wS_X7_in (c_M_in (d + 11) x 1 (by decide) ⟨rfl, rfl⟩) dX7_keep_4 wm_X7_72 wT_X7_in rfl rfl (Nat.le_of_ble_eq_true rfl) rfl ?_
  refine J_if_ne (tgt := 12) (n := 10) dX7_keep_7 (by decide) rfl (fun c_7 => ?_) (fun c_7 => ?_)
  · rw [nb_t] at c_7
    unfold sp_keep at hq
    rw [if_pos c_7] at hq
    obtain ⟨k, hk1, rfl⟩ := ix_of c_7 (by decide)
    rw [nat_nI (by omega)] at hq
    obtain ⟨hkp, hki⟩ := hkm k (by omega)
    refine J_aload_n (i := 0) (n := 13) dX7_keep_12 rfl rfl rfl ?_
    refine T_get (k := 2) (n := 16) wk_X7 dX7_keep_13 wf_X7_16 (by decide) (by first | assumption | decide) rfl rfl ?_
    refine J_iload_n (i := 1) (n := 17) dX7_keep_16 rfl rfl rfl ?_
    refine T_zald (n := 18) dX7_keep_17 (by first | assumption | decide) (vp_in_nI (by omega) (by decide)) rfl ?_
    rw [nI_clamp (by omega), g0, hkp]
    refine J_callSr (n := 21) wS_X7_flag (c_M_flag (d + 11) (S.2.1 k) ⟨rfl, rfl⟩) dX7_keep_18 wm_X7_194 wT_X7_flag rfl rfl (Nat.le_of_ble_eq_true rfl) rfl ?_
    refine J_istore_n (i := 2) (n := 22) (lv' := [(0, _), (1, _), (2, _)]) dX7_keep_21 rfl (by decide) rfl rfl ?_
    refine J_aload_n (i := 0) (n := 23) dX7_keep_22 rfl rfl rfl ?_
    refine T_get (k := 2) (n := 26) wk_X7 dX7_keep_23 wf_X7_16 (by decide) (by first | assumption | decide) rfl rfl ?_
    refine J_iload_n (i := 1) (n := 27) dX7_keep_26 rfl rfl rfl ?_
    refine J_iconst (n := 28) dX7_keep_27 kI_1 rfl ?_
    refine T_zast (n := 29) dX7_keep_28 (by first | assumption | decide) (vp_in_nI (by omega) (by decide)) (by first | exact kN_1 | rfl | decide) rfl ?_
    rw [nI_clamp (by omega)]
    refine J_aload_n (i := 0) (n := 30) dX7_keep_29 rfl rfl rfl ?_
    refine J_bipush (n := 32) dX7_keep_30 kB_57 rfl ?_
    refine J_iload_n (i := 1) (n := 33) dX7_keep_32 rfl rfl rfl ?_
    refine J_iconst (n := 34) dX7_keep_33 kI_1 rfl ?_
    refine J_iadd (n := 35) dX7_keep_34 rfl ?_
    rw [nI_add]
    refine J_imul (n := 36) dX7_keep_35 rfl ?_
    rw [pk_mul]
    refine J_iconst (n := 37) dX7_keep_36 kI_0 rfl ?_
    refine J_callVx (n := 40) wS_X7_copies (c_M_copies (Q := fun r h => r = none ∧ ∃ v1 : gs_Ob, (∀ q, q < 57 → v1.1 0 (57 * (k + 1) + q) = (gs_w v 2 (upd (v.1 2) k (nI 1))).1 0 (0 + q)) ∧ (∀ q, q < 57 * (k + 1) ∨ 57 * (k + 1) + 57 ≤ q → v1.1 0 q = (gs_w v 2 (upd (v.1 2) k (nI 1))).1 0 q) ∧ (∀ kk, kk ≠ 0 → v1.1 kk = (gs_w v 2 (upd (v.1 2) k (nI 1))).1 kk) ∧ v1.2 = (gs_w v 2 (upd (v.1 2) k (nI 1))).2 ∧ h = hp G (gs_set σ 7 0 v1)) (d + 11) (a := 57 * (k + 1)) (b := 0) (by omega) (by omega) (by omega) (fun v1 k1 k2 k3 k4 => ⟨rfl, v1, k1, k2, k3, k4, rfl⟩)) dX7_keep_37 wm_X7_303 ⟨wM_X7_copies, wV_X7_copies⟩ rfl (T_recv (by decide) (by first | assumption | decide)) rfl rfl (Nat.le_of_ble_eq_true rfl) rfl (fun r h1 hq1 => ?_)
    obtain ⟨rfl, v1, k1, k2, k3, k4, rfl⟩ := hq1
    refine J_iload_n (i := 2) (n := 41) dX7_keep_40 rfl rfl rfl ?_
    refine J_iret dX7_keep_41 rfl (kN_i _) ?_
    refine hq _ (hm.keep hS (by omega) (fun q hq0 => ?_) (fun q hq0 => k2 q hq0) (fun j hj hj2 => by rw [k3 j hj, gs_wn _ _ hj2]) k4 (by rw [k3 2 (by decide), gs_wk]))
    rw [k1 q hq0, Nat.zero_add]; rfl
  · refine J_iconst (n := 11) dX7_keep_10 kI_m1 rfl ?_
    refine J_iret dX7_keep_11 rfl (kN_i _) ?_
    rw [nb_0] at c_7
    unfold sp_keep at hq
    rw [c_7, if_neg (by decide)] at hq
    exact hq v hm

set_option maxHeartbeats 4000000 in
set_option maxRecDepth 100000 in
theorem c_N_back {G : gx_G} {σ : gs_S} {Q : Option Value → gx_Hp → Prop} {S : pS} {v : gs_Ob} (d : Nat) (x : Int32) (hS : SOk S) (hm : mR v S) (hq : ∀ v1, mR v1 (sp_back S x).2 → Q (some (.int (sp_back S x).1)) (hp G (gs_set σ 7 0 v1))) : gx_K G yX7_back mX7_back (d + 12) 0 0 [.ref (gs_a G 7 0 0), .int x] (hp G (gs_set σ 7 0 v)) Q := by
  obtain ⟨⟨ha, hsn, hgl⟩, hkm, htp, hft, hsh⟩ := id hm
  have hO := hS.1.1
  have hB := hO.aB
  have h4 : S.1.1.2.2 6 ≤ 4 := hO.2.2.2.2.1
  have h6 : S.1.1.2.2 7 ≤ 6 := hO.2.2.2.2.2.1
  have hm11 : S.1.1.2.2 8 ≤ 11 := hO.2.2.2.2.2.2.1
  have hn9 : S.1.1.2.2 9 ≤ 9999 := hO.2.2.2.2.2.2.2
  have hd9 : S.1.1.2.2 10 ≤ 999 := hS.1.2.2.1
  have h160 : S.2.2.2.1.2 ≤ 160 := hS.2.2.1.1
  have e28 := ha.2.2.2.1
  have e29 := ha.2.2.2.2.1
  have e36 := ha.2.2.2.2.2.1
  have e37 := ha.2.2.2.2.2.2
  have g0 : gs_set σ 7 0 v 7 0 = v := gs_same _ _ _ _
  have hgl0 : (gs_set σ 7 0 v 7 0).2.1 3 = nI (S.1.1.2.2 6) := by rw [g0]; exact hgl
  have ha0 : aR ((gs_set σ 7 0 v 7 0).1 0) S.1.1 := by rw [g0]; exact ha
  refine gx_K.of' (lv := [(0, _), (1, _)]) (by decide) rfl (by decide) (Nat.le_of_ble_eq_true rfl) rfl ?_
  refine J_iload_n (i := 1) (n := 1) dX7_back_0 rfl rfl rfl ?_
  refine J_i2l (n := 2) dX7_back_1 rfl ?_
  refine J_lconst (n := 3) dX7_back_2 kL_0 rfl ?_
  refine J_lconst (n := 4) dX7_back_3 kL_1 rfl ?_
  refine J_callSr (n := 7) wS_X7_in (c_M_in (d + 11) x 1 (by decide) ⟨rfl, rfl⟩) dX7_back_4 wm_X7_72 wT_X7_in rfl rfl (Nat.le_of_ble_eq_true rfl) rfl ?_
  refine J_if_ne (tgt := 12) (n := 10) dX7_back_7 (by decide) rfl (fun c_7 => ?_) (fun c_7 => ?_)
  · rw [nb_t] at c_7
    unfold sp_back at hq
    rw [if_pos c_7] at hq
    obtain ⟨k, hk1, rfl⟩ := ix_of c_7 (by decide)
    rw [nat_nI (by omega)] at hq
    obtain ⟨hkp, hki⟩ := hkm k (by omega)
    refine J_aload_n (i := 0) (n := 13) dX7_back_12 rfl rfl rfl ?_
    refine T_get (k := 2) (n := 16) wk_X7 dX7_back_13 wf_X7_16 (by decide) (by first | assumption | decide) rfl rfl ?_
    refine J_iload_n (i := 1) (n := 17) dX7_back_16 rfl rfl rfl ?_
    refine T_zald (n := 18) dX7_back_17 (by first | assumption | decide) (vp_in_nI (by omega) (by decide)) rfl ?_
    rw [nI_clamp (by omega), g0, hkp]
    refine J_if_ne (tgt := 24) (n := 21) dX7_back_18 (by decide) rfl (fun c_18 => ?_) (fun c_18 => ?_)
    · rw [nb_t] at c_18
      rw [if_pos c_18] at hq
      refine J_aload_n (i := 0) (n := 25) dX7_back_24 rfl rfl rfl ?_
      refine J_iconst (n := 26) dX7_back_25 kI_0 rfl ?_
      refine J_bipush (n := 28) dX7_back_26 kB_57 rfl ?_
      refine J_iload_n (i := 1) (n := 29) dX7_back_28 rfl rfl rfl ?_
      refine J_iconst (n := 30) dX7_back_29 kI_1 rfl ?_
      refine J_iadd (n := 31) dX7_back_30 rfl ?_
      rw [nI_add]
      refine J_imul (n := 32) dX7_back_31 rfl ?_
      rw [pk_mul]
      refine J_callVx (n := 35) wS_X7_copies (c_M_copies (Q := fun r h => r = none ∧ ∃ v1 : gs_Ob, (∀ q, q < 57 → v1.1 0 (0 + q) = (v).1 0 (57 * (k + 1) + q)) ∧ (∀ q, q < 0 ∨ 0 + 57 ≤ q → v1.1 0 q = (v).1 0 q) ∧ (∀ kk, kk ≠ 0 → v1.1 kk = (v).1 kk) ∧ v1.2 = (v).2 ∧ h = hp G (gs_set σ 7 0 v1)) (d + 11) (a := 0) (b := 57 * (k + 1)) (by omega) (by omega) (by omega) (fun v1 k1 k2 k3 k4 => ⟨rfl, v1, k1, k2, k3, k4, rfl⟩)) dX7_back_32 wm_X7_303 ⟨wM_X7_copies, wV_X7_copies⟩ rfl (T_recv (by decide) (by first | assumption | decide)) rfl rfl (Nat.le_of_ble_eq_true rfl) rfl (fun r h1 hq1 => ?_)
      obtain ⟨rfl, v1, k1, k2, k3, k4, rfl⟩ := hq1
      refine J_aload_n (i := 0) (n := 36) dX7_back_35 rfl rfl rfl ?_
      refine T_get (k := 0) (n := 39) wk_X7 dX7_back_36 wf_X7_7 (by decide) (by first | assumption | decide) rfl rfl ?_
      refine J_bipush (n := 41) dX7_back_39 kB_37 rfl ?_
      refine T_iald (c := 7) (k := 0) (N := 171) (n := 42) dX7_back_41 (by decide) (by first | assumption | decide) rfl (vp_in_nI (by decide) (by decide)) rfl ?_
      refine J_iret dX7_back_42 rfl (kN_i _) ?_
      have hm1 := hm.back hS (by omega) c_18 (fun q hq0 => by have := k1 q hq0; rw [Nat.zero_add] at this; exact this) (fun q hq0 => k2 q (by omega)) k3 k4
      rw [nI_clamp (by decide), show v1.1 0 37 = nI ((S.2.2.1 k).1.2.2 10) from hm1.1.1.2.2.2.2.2.2]
      exact hq _ hm1
    · rw [nb_0] at c_18
      rw [if_neg (by rw [c_18]; decide)] at hq
      refine J_bipush (n := 23) dX7_back_21 kB_m2 rfl ?_
      refine J_iret dX7_back_23 rfl (kN_i _) ?_
      exact hq v hm
  · refine J_iconst (n := 11) dX7_back_10 kI_m1 rfl ?_
    refine J_iret dX7_back_11 rfl (kN_i _) ?_
    rw [nb_0] at c_7
    unfold sp_back at hq
    rw [c_7, if_neg (by decide)] at hq
    exact hq v hm

set_option maxHeartbeats 4000000 in
set_option maxRecDepth 100000 in
theorem c_M_isSheet {G : gx_G} {h : gx_Hp} {Q : Option Value → gx_Hp → Prop} (d : Nat) (k l : Int32) (hq : Q (some (.int (nI (ix_in k 3 && ix_in l 2).toNat))) h) : gx_K G yX7_isSheet mX7_isSheet (d + 1) 0 0 [.int k, .int l] h Q := by
  refine gx_K.of' (lv := [(0, _), (1, _)]) (by decide) rfl (by decide) (Nat.le_of_ble_eq_true rfl) rfl ?_
  refine J_iload_n (i := 0) (n := 1) dX7_isSheet_0 rfl rfl rfl ?_
  refine J_i2l (n := 2) dX7_isSheet_1 rfl ?_
  refine J_lconst (n := 3) dX7_isSheet_2 kL_0 rfl ?_
  refine J_ldc2 (n := 6) dX7_isSheet_3 wd_X7_222 rfl ?_
  refine J_callSr (n := 9) wS_X7_in (c_M_in d k 3 (by decide) ⟨rfl, rfl⟩) dX7_isSheet_6 wm_X7_72 wT_X7_in rfl rfl (Nat.le_of_ble_eq_true rfl) rfl ?_
  refine J_if_eq (tgt := 28) (n := 12) dX7_isSheet_9 (by decide) rfl (fun c_9 => ?_) (fun c_9 => ?_)
  · refine J_iconst (n := 29) dX7_isSheet_28 kI_0 rfl ?_
    refine J_iret dX7_isSheet_29 rfl (by first | exact kN_0 | exact kN_1) ?_
    first
    | (rw [nb_0] at c_9; rw [c_9] at hq; exact hq)
    | (rw [nb_t] at c_9; rw [nb_0] at c_21; rw [c_9, c_21] at hq; exact hq)
    | (rw [nb_t] at c_9 c_21; rw [c_9, c_21] at hq; exact hq)
  · refine J_iload_n (i := 1) (n := 13) dX7_isSheet_12 rfl rfl rfl ?_
    refine J_i2l (n := 14) dX7_isSheet_13 rfl ?_
    refine J_lconst (n := 15) dX7_isSheet_14 kL_0 rfl ?_
    refine J_ldc2 (n := 18) dX7_isSheet_15 wd_X7_306 rfl ?_
    refine J_callSr (n := 21) wS_X7_in (c_M_in d l 2 (by decide) ⟨rfl, rfl⟩) dX7_isSheet_18 wm_X7_72 wT_X7_in rfl rfl (Nat.le_of_ble_eq_true rfl) rfl ?_
    refine J_if_eq (tgt := 28) (n := 24) dX7_isSheet_21 (by decide) rfl (fun c_21 => ?_) (fun c_21 => ?_)
    · refine J_iconst (n := 29) dX7_isSheet_28 kI_0 rfl ?_
      refine J_iret dX7_isSheet_29 rfl (by first | exact kN_0 | exact kN_1) ?_
      first
      | (rw [nb_0] at c_9; rw [c_9] at hq; exact hq)
      | (rw [nb_t] at c_9; rw [nb_0] at c_21; rw [c_9, c_21] at hq; exact hq)
      | (rw [nb_t] at c_9 c_21; rw [c_9, c_21] at hq; exact hq)
    · refine J_iconst (n := 25) dX7_isSheet_24 kI_1 rfl ?_
      refine J_goto (tgt := 29) dX7_isSheet_25 (by decide) ?_
      refine J_iret dX7_isSheet_29 rfl (by first | exact kN_0 | exact kN_1) ?_
      first
      | (rw [nb_0] at c_9; rw [c_9] at hq; exact hq)
      | (rw [nb_t] at c_9; rw [nb_0] at c_21; rw [c_9, c_21] at hq; exact hq)
      | (rw [nb_t] at c_9 c_21; rw [c_9, c_21] at hq; exact hq)

set_option maxHeartbeats 4000000 in
set_option maxRecDepth 100000 in
theorem c_N_sheet {G : gx_G} {σ : gs_S} {Q : Option Value → gx_Hp → Prop} {S : pS} {v : gs_Ob} (d : Nat) (x l n : Int32) (hS : SOk S) (hm : mR v S) (hq : ∀ v1, mR v1 (sp_sheet S x l n).2 → Q (some (.int (sp_sheet S x l n).1)) (hp G (gs_set σ 7 0 v1))) : gx_K G yX7_sheet mX7_sheet (d + 12) 0 0 [.ref (gs_a G 7 0 0), .int x, .int l, .int n] (hp G (gs_set σ 7 0 v)) Q := by
  obtain ⟨⟨ha, hsn, hgl⟩, hkm, htp, hft, hsh⟩ := id hm
  have hO := hS.1.1
  have hB := hO.aB
  have h4 : S.1.1.2.2 6 ≤ 4 := hO.2.2.2.2.1
  have h6 : S.1.1.2.2 7 ≤ 6 := hO.2.2.2.2.2.1
  have hm11 : S.1.1.2.2 8 ≤ 11 := hO.2.2.2.2.2.2.1
  have hn9 : S.1.1.2.2 9 ≤ 9999 := hO.2.2.2.2.2.2.2
  have hd9 : S.1.1.2.2 10 ≤ 999 := hS.1.2.2.1
  have h160 : S.2.2.2.1.2 ≤ 160 := hS.2.2.1.1
  have e28 := ha.2.2.2.1
  have e29 := ha.2.2.2.2.1
  have e36 := ha.2.2.2.2.2.1
  have e37 := ha.2.2.2.2.2.2
  have g0 : gs_set σ 7 0 v 7 0 = v := gs_same _ _ _ _
  have hgl0 : (gs_set σ 7 0 v 7 0).2.1 3 = nI (S.1.1.2.2 6) := by rw [g0]; exact hgl
  have ha0 : aR ((gs_set σ 7 0 v 7 0).1 0) S.1.1 := by rw [g0]; exact ha
  refine gx_K.of' (lv := [(0, _), (1, _), (2, _), (3, _)]) (by decide) rfl (by decide) (Nat.le_of_ble_eq_true rfl) rfl ?_
  refine J_iload_n (i := 1) (n := 1) dX7_sheet_0 rfl rfl rfl ?_
  refine J_iload_n (i := 2) (n := 2) dX7_sheet_1 rfl rfl rfl ?_
  refine J_callSr (n := 5) wS_X7_isSheet (c_M_isSheet (d + 10) x l ⟨rfl, rfl⟩) dX7_sheet_2 wm_X7_308 wT_X7_isSheet rfl rfl (Nat.le_of_ble_eq_true rfl) rfl ?_
  refine J_if_eq (tgt := 14) (n := 8) dX7_sheet_5 (by decide) rfl (fun c_5 => ?_) (fun c_5 => ?_)
  · refine J_iconst (n := 15) dX7_sheet_14 kI_m1 rfl ?_
    refine J_iret dX7_sheet_15 rfl (kN_i _) ?_
    unfold sp_sheet at hq
    rw [← Bool.and_assoc, if_neg (by
      first
      | (rw [nb_0] at c_5; rw [c_5, Bool.false_and]; decide)
      | (rw [decide_eq_false c_11, Bool.and_false]; decide))] at hq
    exact hq v hm
  · refine J_iload_n (i := 3) (n := 9) dX7_sheet_8 rfl rfl rfl ?_
    refine J_bipush (n := 11) dX7_sheet_9 kB_40 rfl ?_
    refine J_icmp_le (tgt := 16) (n := 14) dX7_sheet_11 (by decide) rfl (fun c_11 => ?_) (fun c_11 => ?_)
    · rw [nb_t] at c_5
      unfold sp_sheet at hq
      rw [← Bool.and_assoc, if_pos (by rw [c_5, decide_eq_true c_11]; rfl)] at hq
      rw [Bool.and_eq_true] at c_5
      obtain ⟨k, hk3, rfl⟩ := ix_of c_5.1 (by decide)
      obtain ⟨l, hl2, rfl⟩ := ix_of c_5.2 (by decide)
      rw [nat_nI (by omega), nat_nI (by omega)] at hq
      refine J_iload_n (i := 3) (n := 17) dX7_sheet_16 rfl rfl rfl ?_
      refine J_if_ge (tgt := 23) (n := 20) dX7_sheet_17 (by decide) rfl (fun c_17 => ?_) (fun c_17 => ?_)
      · rw [if_pos c_17] at hq
        obtain ⟨m, hm31, rfl⟩ := nI_of (Int32.not_lt.mpr c_17)
        rw [nI_leI (by omega) (by decide)] at c_11
        rw [nat_nI (by omega)] at hq
        refine J_aload_n (i := 0) (n := 24) dX7_sheet_23 rfl rfl rfl ?_
        refine T_get (k := 25) (n := 27) wk_X7 dX7_sheet_24 wf_X7_32 (by decide) (by first | assumption | decide) rfl rfl ?_
        refine J_iload_n (i := 1) (n := 28) dX7_sheet_27 rfl rfl rfl ?_
        refine J_iload_n (i := 2) (n := 29) dX7_sheet_28 rfl rfl rfl ?_
        refine T_iast (c := 7) (k := 25) (N := 4) (n := 30) dX7_sheet_29 (by decide) (by first | assumption | decide) (fun _ => rfl) (vp_in_nI (by omega) (by decide)) rfl ?_
        rw [nI_clamp (by omega)]
        refine J_aload_n (i := 0) (n := 31) dX7_sheet_30 rfl rfl rfl ?_
        refine T_get (k := 26) (n := 34) wk_X7 dX7_sheet_31 wf_X7_35 (by decide) (by first | assumption | decide) rfl rfl ?_
        refine J_iload_n (i := 1) (n := 35) dX7_sheet_34 rfl rfl rfl ?_
        refine J_iload_n (i := 3) (n := 36) dX7_sheet_35 rfl rfl rfl ?_
        refine T_iast (c := 7) (k := 26) (N := 4) (n := 37) dX7_sheet_36 (by decide) (by first | assumption | decide) (fun _ => rfl) (vp_in_nI (by omega) (by decide)) rfl ?_
        rw [nI_clamp (by omega)]
        refine J_iconst (n := 38) dX7_sheet_37 kI_0 rfl ?_
        refine J_istore (i := 4) (n := 40) (lv' := [(0, _), (1, _), (2, _), (3, _), (4, _)]) dX7_sheet_38 (by decide) rfl rfl ?_
        have loop : ∀ u e v1, 40 - e < u → e ≤ 40 → (∀ j, j ≠ 27 → v1.1 j = (gs_w (gs_w v 25 (upd (v.1 25) k (nI l))) 26 (upd (v.1 26) k (nI m))).1 j) → v1.2 = v.2 → (∀ q, q < e → v1.1 27 (40 * k + q) = nI 0) → (∀ q, q < 40 * k ∨ 40 * k + 40 ≤ q → v1.1 27 q = v.1 27 q) → gx_J G mX7_sheet (d + 12) 0 0 Q 40 [(0, .ref (gs_a G 7 0 0)), (1, .int (nI k)), (2, .int (nI l)), (3, .int (nI m)), (4, .int (nI e))] [] (hp G (gs_set σ 7 0 v1)) := by
          intro u
          induction u with
          | zero => intros; exact absurd (by assumption) (Nat.not_lt_zero _)
          | succ u ih =>
            intro e v1 hu he k1 k2 k3 k4
            refine J_iload (i := 4) (n := 42) dX7_sheet_40 rfl rfl ?_
            refine J_bipush (n := 44) dX7_sheet_42 kB_40 rfl ?_
            refine J_icmp_ge (tgt := 66) (n := 47) dX7_sheet_44 (by decide) rfl (fun c_44 => ?_) (fun c_44 => ?_)
            · refine J_iconst (n := 67) dX7_sheet_66 kI_1 rfl ?_
              refine J_iret dX7_sheet_67 rfl (kN_i _) ?_
              rw [nI_leI (by omega) (by omega)] at c_44
              have ee : e = 40 := by omega
              subst ee
              exact hq _ (hm.sheet (by omega) (x := (fun _ => nI 0, l, m)) (fun j hj => by rw [k1 j (by omega), gs_wn _ _ (by omega), gs_wn _ _ (by omega)]) k2 (by rw [k1 25 (by decide), gs_wn _ _ (by decide), gs_wk, if_neg (show ¬ l = 9 by omega)]) (by rw [k1 26 (by decide), gs_wk]) k3 k4)
            · rw [nI_leI (by omega) (by omega)] at c_44
              refine J_aload_n (i := 0) (n := 48) dX7_sheet_47 rfl rfl rfl ?_
              refine T_get (k := 27) (n := 51) wk_X7 dX7_sheet_48 wf_X7_38 (by decide) (by first | assumption | decide) rfl rfl ?_
              refine J_bipush (n := 53) dX7_sheet_51 kB_40 rfl ?_
              refine J_iload_n (i := 1) (n := 54) dX7_sheet_53 rfl rfl rfl ?_
              refine J_imul (n := 55) dX7_sheet_54 rfl ?_
              rw [pk_mul]
              refine J_iload (i := 4) (n := 57) dX7_sheet_55 rfl rfl ?_
              refine J_iadd (n := 58) dX7_sheet_57 rfl ?_
              rw [nI_add]
              refine J_iconst (n := 59) dX7_sheet_58 kI_0 rfl ?_
              refine T_iast (c := 7) (k := 27) (N := 160) (n := 60) dX7_sheet_59 (by decide) (by first | assumption | decide) (fun _ => rfl) (vp_in_nI (by omega) (by decide)) rfl ?_
              rw [nI_clamp (by omega)]
              refine J_inc (i := 4) (n := 63) (lv' := [(0, _), (1, _), (2, _), (3, _), (4, _)]) dX7_sheet_60 rfl (by decide) rfl rfl ?_
              refine J_goto (tgt := 40) dX7_sheet_63 (by decide) ?_
              refine ih (e + 1) _ (by omega) (by omega) (fun j hj => by rw [gs_wn _ _ hj]; exact k1 j hj) k2 (fun q hq0 => ?_) (fun q hq0 => by rw [gs_wk, pk_un (by omega)]; exact k4 q hq0)
              rw [gs_wk]
              by_cases eq : q = e
              · subst eq; rw [pk_us]
              · rw [pk_un (by omega)]; exact k3 q (by omega)
        exact loop 41 0 _ (by omega) (by omega) (fun j _ => by rw [gs_wn v _ (by decide : (26 : Nat) ≠ 25)]) rfl (fun q hq0 => absurd hq0 (Nat.not_lt_zero _)) (fun q _ => rfl)
      · refine J_bipush (n := 22) dX7_sheet_20 kB_m14 rfl ?_
        refine J_iret dX7_sheet_22 rfl (kN_i _) ?_
        rw [if_neg c_17] at hq
        exact hq v hm
    · refine J_iconst (n := 15) dX7_sheet_14 kI_m1 rfl ?_
      refine J_iret dX7_sheet_15 rfl (kN_i _) ?_
      unfold sp_sheet at hq
      rw [← Bool.and_assoc, if_neg (by
        first
        | (rw [nb_0] at c_5; rw [c_5, Bool.false_and]; decide)
        | (rw [decide_eq_false c_11, Bool.and_false]; decide))] at hq
      exact hq v hm

set_option maxHeartbeats 4000000 in
set_option maxRecDepth 100000 in
theorem c_N_lay {G : gx_G} {σ : gs_S} {Q : Option Value → gx_Hp → Prop} {S : pS} {v : gs_Ob} (d : Nat) (x i z : Int32) (hS : SOk S) (hm : mR v S) (hq : ∀ v1, mR v1 (sp_lay S x i z).2 → Q (some (.int (sp_lay S x i z).1)) (hp G (gs_set σ 7 0 v1))) : gx_K G yX7_lay mX7_lay (d + 12) 0 0 [.ref (gs_a G 7 0 0), .int x, .int i, .int z] (hp G (gs_set σ 7 0 v)) Q := by
  obtain ⟨⟨ha, hsn, hgl⟩, hkm, htp, hft, hsh⟩ := id hm
  have hO := hS.1.1
  have hB := hO.aB
  have h4 : S.1.1.2.2 6 ≤ 4 := hO.2.2.2.2.1
  have h6 : S.1.1.2.2 7 ≤ 6 := hO.2.2.2.2.2.1
  have hm11 : S.1.1.2.2 8 ≤ 11 := hO.2.2.2.2.2.2.1
  have hn9 : S.1.1.2.2 9 ≤ 9999 := hO.2.2.2.2.2.2.2
  have hd9 : S.1.1.2.2 10 ≤ 999 := hS.1.2.2.1
  have h160 : S.2.2.2.1.2 ≤ 160 := hS.2.2.1.1
  have e28 := ha.2.2.2.1
  have e29 := ha.2.2.2.2.1
  have e36 := ha.2.2.2.2.2.1
  have e37 := ha.2.2.2.2.2.2
  have g0 : gs_set σ 7 0 v 7 0 = v := gs_same _ _ _ _
  have hgl0 : (gs_set σ 7 0 v 7 0).2.1 3 = nI (S.1.1.2.2 6) := by rw [g0]; exact hgl
  have ha0 : aR ((gs_set σ 7 0 v 7 0).1 0) S.1.1 := by rw [g0]; exact ha
  refine gx_K.of' (lv := [(0, _), (1, _), (2, _), (3, _)]) (by decide) rfl (by decide) (Nat.le_of_ble_eq_true rfl) rfl ?_
  refine J_iload_n (i := 1) (n := 1) dX7_lay_0 rfl rfl rfl ?_
  refine J_iconst (n := 2) dX7_lay_1 kI_0 rfl ?_
  refine J_callSr (n := 5) wS_X7_isSheet (c_M_isSheet (d + 10) x (nI 0) ⟨rfl, rfl⟩) dX7_lay_2 wm_X7_308 wT_X7_isSheet rfl rfl (Nat.le_of_ble_eq_true rfl) rfl ?_
  refine J_if_ne (tgt := 10) (n := 8) dX7_lay_5 (by decide) rfl (fun c_5 => ?_) (fun c_5 => ?_)
  · rw [nb_t, Bool.and_eq_true] at c_5
    unfold sp_lay at hq
    rw [if_pos c_5.1] at hq
    obtain ⟨k, hk3, rfl⟩ := ix_of c_5.1 (by decide)
    rw [nat_nI (by omega)] at hq
    obtain ⟨hxc, hxl, hxz⟩ := hsh k (by omega)
    obtain ⟨hx40, hxb⟩ := hS.2.2.2 k (by omega)
    have h9 : (if (S.2.2.2.2.2 k).2.1 = 9 then (-4 : Int32) else nI (S.2.2.2.2.2 k).2.1) = -4 ↔ (S.2.2.2.2.2 k).2.1 = 9 := by
      by_cases e9 : (S.2.2.2.2.2 k).2.1 = 9
      · rw [if_pos e9]; exact ⟨fun _ => e9, fun _ => rfl⟩
      · rw [if_neg e9]; exact ⟨fun q => absurd (by rw [q]; decide +kernel : nI (S.2.2.2.2.2 k).2.1 < 0) (nI_pos (by omega)), fun q => absurd q e9⟩
    refine J_aload_n (i := 0) (n := 11) dX7_lay_10 rfl rfl rfl ?_
    refine T_get (k := 25) (n := 14) wk_X7 dX7_lay_11 wf_X7_32 (by decide) (by first | assumption | decide) rfl rfl ?_
    refine J_iload_n (i := 1) (n := 15) dX7_lay_14 rfl rfl rfl ?_
    refine T_iald (c := 7) (k := 25) (N := 4) (n := 16) dX7_lay_15 (by decide) (by first | assumption | decide) rfl (vp_in_nI (by omega) (by decide)) rfl ?_
    rw [nI_clamp (by omega), hxl]
    refine J_bipush (n := 18) dX7_lay_16 kB_m4 rfl ?_
    refine J_icmp_ne (tgt := 24) (n := 21) dX7_lay_18 (by decide) rfl (fun c_18 => ?_) (fun c_18 => ?_)
    · rw [h9] at c_18
      have hn9 := c_18
      refine J_iload_n (i := 2) (n := 25) dX7_lay_24 rfl rfl rfl ?_
      refine J_i2l (n := 26) dX7_lay_25 rfl ?_
      refine J_lconst (n := 27) dX7_lay_26 kL_0 rfl ?_
      refine J_aload_n (i := 0) (n := 28) dX7_lay_27 rfl rfl rfl ?_
      refine T_get (k := 26) (n := 31) wk_X7 dX7_lay_28 wf_X7_35 (by decide) (by first | assumption | decide) rfl rfl ?_
      refine J_iload_n (i := 1) (n := 32) dX7_lay_31 rfl rfl rfl ?_
      refine T_iald (c := 7) (k := 26) (N := 4) (n := 33) dX7_lay_32 (by decide) (by first | assumption | decide) rfl (vp_in_nI (by omega) (by decide)) rfl ?_
      rw [nI_clamp (by omega), hxz]
      refine J_iconst (n := 34) dX7_lay_33 kI_1 rfl ?_
      refine J_isub (n := 35) dX7_lay_34 rfl ?_
      refine J_i2l (n := 36) dX7_lay_35 rfl ?_
      refine J_callSr (n := 39) wS_X7_in (c_M_in1 (d + 11) i (S.2.2.2.2.2 k).2.2 (by omega) ⟨rfl, rfl⟩) dX7_lay_36 wm_X7_72 wT_X7_in rfl rfl (Nat.le_of_ble_eq_true rfl) rfl ?_
      refine J_if_ne (tgt := 45) (n := 42) dX7_lay_39 (by decide) rfl (fun c_39 => ?_) (fun c_39 => ?_)
      · rw [nb_t] at c_39
        have hfa : fa (S.2.2.2.2.2 k) i = 0 := by unfold fa; rw [if_neg hn9, if_pos c_39]
        rw [if_pos hfa] at hq
        obtain ⟨j, hj, rfl⟩ := ix1_of c_39 (by omega)
        rw [nat_nI (by omega)] at hq
        refine J_aload_n (i := 0) (n := 46) dX7_lay_45 rfl rfl rfl ?_
        refine T_get (k := 27) (n := 49) wk_X7 dX7_lay_46 wf_X7_38 (by decide) (by first | assumption | decide) rfl rfl ?_
        refine J_bipush (n := 51) dX7_lay_49 kB_40 rfl ?_
        refine J_iload_n (i := 1) (n := 52) dX7_lay_51 rfl rfl rfl ?_
        refine J_imul (n := 53) dX7_lay_52 rfl ?_
        rw [pk_mul]
        refine J_iload_n (i := 2) (n := 54) dX7_lay_53 rfl rfl rfl ?_
        refine J_iadd (n := 55) dX7_lay_54 rfl ?_
        rw [nI_add]
        refine J_aload_n (i := 0) (n := 56) dX7_lay_55 rfl rfl rfl ?_
        refine T_get (k := 25) (n := 59) wk_X7 dX7_lay_56 wf_X7_32 (by decide) (by first | assumption | decide) rfl rfl ?_
        refine J_iload_n (i := 1) (n := 60) dX7_lay_59 rfl rfl rfl ?_
        refine T_iald (c := 7) (k := 25) (N := 4) (n := 61) dX7_lay_60 (by decide) (by first | assumption | decide) rfl (vp_in_nI (by omega) (by decide)) rfl ?_
        rw [nI_clamp (by omega), hxl, if_neg hn9]
        refine J_if_ne (tgt := 69) (n := 64) dX7_lay_61 (by decide) rfl (fun c_61 => ?_) (fun c_61 => ?_)
        · refine J_aload_n (i := 0) (n := 70) dX7_lay_69 rfl rfl rfl ?_
          refine T_get (k := 25) (n := 73) wk_X7 dX7_lay_70 wf_X7_32 (by decide) (by first | assumption | decide) rfl rfl ?_
          refine J_iload_n (i := 1) (n := 74) dX7_lay_73 rfl rfl rfl ?_
          refine T_iald (c := 7) (k := 25) (N := 4) (n := 75) dX7_lay_74 (by decide) (by first | assumption | decide) rfl (vp_in_nI (by omega) (by decide)) rfl ?_
          rw [nI_clamp (by omega), hxl, if_neg hn9]
          refine J_iconst (n := 76) dX7_lay_75 kI_1 rfl ?_
          refine J_icmp_ne (tgt := 84) (n := 79) dX7_lay_76 (by decide) rfl (fun c_76 => ?_) (fun c_76 => ?_)
          · refine J_iload_n (i := 3) (n := 85) dX7_lay_84 rfl rfl rfl ?_
            refine T_iast (c := 7) (k := 27) (N := 160) (n := 86) dX7_lay_85 (by decide) (by first | assumption | decide) (fun _ => rfl) (vp_in_nI (by omega) (by decide)) rfl ?_
            rw [nI_clamp (by omega)]
            rw [nI_k0 (by omega)] at c_61
            try rw [show nI 1 = (1 : Int32) from rfl, nI_k1 (by omega)] at c_76
            refine J_iconst (n := 87) dX7_lay_86 kI_1 rfl ?_
            refine J_iret dX7_lay_87 rfl (kN_i _) ?_
            have hlb : ∀ L, lb (S.2.2.2.2.2 k).2.1 z = L → mR (gs_w v 27 (upd (v.1 27) (40 * k + j) L)) (pS_h S k (upd (S.2.2.2.2.2 k).1 j (lb (S.2.2.2.2.2 k).2.1 z), (S.2.2.2.2.2 k).2)) := by
              intro L hL
              refine hm.sheet (by omega) (fun q hq0 => gs_wn _ _ (by omega)) rfl ?_ ?_ (fun q hq0 => ?_) (fun q hq0 => by rw [gs_wk, pk_un (by omega)])
              · rw [gs_wn _ _ (by decide)]; exact (upd_id hxl).symm
              · rw [gs_wn _ _ (by decide)]; exact (upd_id hxz).symm
              · rw [gs_wk, hL]
                show _ = upd (S.2.2.2.2.2 k).1 j L q
                by_cases eq : q = j
                · subst eq; rw [pk_us, pk_us]
                · rw [pk_un (by omega), pk_un (by omega)]; exact hxc q hq0
            first
            | exact hq _ (hlb _ (by unfold lb; rw [if_pos c_61]))
            | exact hq _ (hlb _ (by unfold lb; rw [if_neg c_61, if_pos c_76]))
            | exact hq _ (hlb _ (by unfold lb; rw [if_neg c_61, if_neg c_76]))
          · refine J_iload_n (i := 3) (n := 80) dX7_lay_79 rfl rfl rfl ?_
            refine J_i2s (n := 81) dX7_lay_80 rfl ?_
            refine J_goto (tgt := 85) dX7_lay_81 (by decide) ?_
            refine T_iast (c := 7) (k := 27) (N := 160) (n := 86) dX7_lay_85 (by decide) (by first | assumption | decide) (fun _ => rfl) (vp_in_nI (by omega) (by decide)) rfl ?_
            rw [nI_clamp (by omega)]
            rw [nI_k0 (by omega)] at c_61
            try rw [show nI 1 = (1 : Int32) from rfl, nI_k1 (by omega)] at c_76
            refine J_iconst (n := 87) dX7_lay_86 kI_1 rfl ?_
            refine J_iret dX7_lay_87 rfl (kN_i _) ?_
            have hlb : ∀ L, lb (S.2.2.2.2.2 k).2.1 z = L → mR (gs_w v 27 (upd (v.1 27) (40 * k + j) L)) (pS_h S k (upd (S.2.2.2.2.2 k).1 j (lb (S.2.2.2.2.2 k).2.1 z), (S.2.2.2.2.2 k).2)) := by
              intro L hL
              refine hm.sheet (by omega) (fun q hq0 => gs_wn _ _ (by omega)) rfl ?_ ?_ (fun q hq0 => ?_) (fun q hq0 => by rw [gs_wk, pk_un (by omega)])
              · rw [gs_wn _ _ (by decide)]; exact (upd_id hxl).symm
              · rw [gs_wn _ _ (by decide)]; exact (upd_id hxz).symm
              · rw [gs_wk, hL]
                show _ = upd (S.2.2.2.2.2 k).1 j L q
                by_cases eq : q = j
                · subst eq; rw [pk_us, pk_us]
                · rw [pk_un (by omega), pk_un (by omega)]; exact hxc q hq0
            first
            | exact hq _ (hlb _ (by unfold lb; rw [if_pos c_61]))
            | exact hq _ (hlb _ (by unfold lb; rw [if_neg c_61, if_pos c_76]))
            | exact hq _ (hlb _ (by unfold lb; rw [if_neg c_61, if_neg c_76]))
        · refine J_iload_n (i := 3) (n := 65) dX7_lay_64 rfl rfl rfl ?_
          refine J_i2b (n := 66) dX7_lay_65 rfl ?_
          refine J_goto (tgt := 85) dX7_lay_66 (by decide) ?_
          refine T_iast (c := 7) (k := 27) (N := 160) (n := 86) dX7_lay_85 (by decide) (by first | assumption | decide) (fun _ => rfl) (vp_in_nI (by omega) (by decide)) rfl ?_
          rw [nI_clamp (by omega)]
          rw [nI_k0 (by omega)] at c_61
          try rw [show nI 1 = (1 : Int32) from rfl, nI_k1 (by omega)] at c_76
          refine J_iconst (n := 87) dX7_lay_86 kI_1 rfl ?_
          refine J_iret dX7_lay_87 rfl (kN_i _) ?_
          have hlb : ∀ L, lb (S.2.2.2.2.2 k).2.1 z = L → mR (gs_w v 27 (upd (v.1 27) (40 * k + j) L)) (pS_h S k (upd (S.2.2.2.2.2 k).1 j (lb (S.2.2.2.2.2 k).2.1 z), (S.2.2.2.2.2 k).2)) := by
            intro L hL
            refine hm.sheet (by omega) (fun q hq0 => gs_wn _ _ (by omega)) rfl ?_ ?_ (fun q hq0 => ?_) (fun q hq0 => by rw [gs_wk, pk_un (by omega)])
            · rw [gs_wn _ _ (by decide)]; exact (upd_id hxl).symm
            · rw [gs_wn _ _ (by decide)]; exact (upd_id hxz).symm
            · rw [gs_wk, hL]
              show _ = upd (S.2.2.2.2.2 k).1 j L q
              by_cases eq : q = j
              · subst eq; rw [pk_us, pk_us]
              · rw [pk_un (by omega), pk_un (by omega)]; exact hxc q hq0
          first
          | exact hq _ (hlb _ (by unfold lb; rw [if_pos c_61]))
          | exact hq _ (hlb _ (by unfold lb; rw [if_neg c_61, if_pos c_76]))
          | exact hq _ (hlb _ (by unfold lb; rw [if_neg c_61, if_neg c_76]))
      · refine J_bipush (n := 44) dX7_lay_42 kB_m12 rfl ?_
        refine J_iret dX7_lay_44 rfl (kN_i _) ?_
        rw [nb_0] at c_39
        have hfa : fa (S.2.2.2.2.2 k) i = 2 := by unfold fa; rw [if_neg hn9, c_39]; rfl
        rw [hfa, if_neg (by decide)] at hq
        exact hq v hm
    · refine J_bipush (n := 23) dX7_lay_21 kB_m11 rfl ?_
      refine J_iret dX7_lay_23 rfl (kN_i _) ?_
      rw [h9] at c_18
      have hfa : fa (S.2.2.2.2.2 k) i = 1 := by unfold fa; rw [if_pos c_18]
      rw [hfa, if_neg (by decide)] at hq
      exact hq v hm
  · refine J_iconst (n := 9) dX7_lay_8 kI_m1 rfl ?_
    refine J_iret dX7_lay_9 rfl (kN_i _) ?_
    unfold sp_lay at hq
    rw [nb_0] at c_5
    have e2 : ix_in (nI 0) 2 = true := by decide +kernel
    rw [e2, Bool.and_true] at c_5
    rw [c_5, if_neg (by decide)] at hq
    exact hq v hm

set_option maxHeartbeats 4000000 in
set_option maxRecDepth 100000 in
theorem c_N_count {G : gx_G} {σ : gs_S} {Q : Option Value → gx_Hp → Prop} {S : pS} {v : gs_Ob} (d : Nat) (w : Int32) (hS : SOk S) (hm : mR v S) (hq : ∀ v1, mR v1 S → Q (some (.int (sp_count S w))) (hp G (gs_set σ 7 0 v1))) : gx_K G yX7_count mX7_count (d + 12) 0 0 [.ref (gs_a G 7 0 0), .int w] (hp G (gs_set σ 7 0 v)) Q := by
  obtain ⟨⟨ha, hsn, hgl⟩, hkm, htp, hft, hsh⟩ := id hm
  have hO := hS.1.1
  have hB := hO.aB
  have h4 : S.1.1.2.2 6 ≤ 4 := hO.2.2.2.2.1
  have h6 : S.1.1.2.2 7 ≤ 6 := hO.2.2.2.2.2.1
  have hm11 : S.1.1.2.2 8 ≤ 11 := hO.2.2.2.2.2.2.1
  have hn9 : S.1.1.2.2 9 ≤ 9999 := hO.2.2.2.2.2.2.2
  have hd9 : S.1.1.2.2 10 ≤ 999 := hS.1.2.2.1
  have h160 : S.2.2.2.1.2 ≤ 160 := hS.2.2.1.1
  have e28 := ha.2.2.2.1
  have e29 := ha.2.2.2.2.1
  have e36 := ha.2.2.2.2.2.1
  have e37 := ha.2.2.2.2.2.2
  have g0 : gs_set σ 7 0 v 7 0 = v := gs_same _ _ _ _
  have hgl0 : (gs_set σ 7 0 v 7 0).2.1 3 = nI (S.1.1.2.2 6) := by rw [g0]; exact hgl
  have ha0 : aR ((gs_set σ 7 0 v 7 0).1 0) S.1.1 := by rw [g0]; exact ha
  refine gx_K.of' (lv := [(0, _), (1, _)]) (by decide) rfl (by decide) (Nat.le_of_ble_eq_true rfl) rfl ?_
  refine J_iconst (n := 1) dX7_count_0 kI_0 rfl ?_
  refine J_istore_n (i := 2) (n := 2) (lv' := [(0, _), (1, _), (2, _)]) dX7_count_1 rfl (by decide) rfl rfl ?_
  refine J_iconst (n := 3) dX7_count_2 kI_0 rfl ?_
  refine J_istore_n (i := 3) (n := 4) (lv' := [(0, _), (1, _), (2, _), (3, _)]) dX7_count_3 rfl (by decide) rfl rfl ?_
  refine J_iconst (n := 5) dX7_count_4 kI_0 rfl ?_
  refine J_istore (i := 4) (n := 7) (lv' := [(0, _), (1, _), (2, _), (3, _), (4, _)]) dX7_count_5 (by decide) rfl rfl ?_
  have hsw : ∀ q, q ≤ S.1.1.2.2 6 → su (S.1.1.1 3) q ≤ 20 * q := fun q hq0 => su_lt (fun j hj => (hO.2.1 j (by omega)).2.2)
  have loop2 : ∀ u e, 12 - e < u → e ≤ 12 → gx_J G mX7_count (d + 12) 0 0 Q 42 [(0, .ref (gs_a G 7 0 0)), (1, .int w), (2, .int (nI (su (S.1.1.1 3) (S.1.1.2.2 6)))), (3, .int (nI (su (S.1.1.1 0) e))), (4, .int (nI e))] [] (hp G (gs_set σ 7 0 v)) := by
    intro u
    induction u with
    | zero => intros; exact absurd (by assumption) (Nat.not_lt_zero _)
    | succ u ih =>
      intro e hu he
      refine J_iload (i := 4) (n := 44) dX7_count_42 rfl rfl ?_
      refine J_bipush (n := 46) dX7_count_44 kB_12 rfl ?_
      refine J_icmp_ge (tgt := 65) (n := 49) dX7_count_46 (by decide) rfl (fun c_46 => ?_) (fun c_46 => ?_)
      · rw [nI_leI (by omega) (by omega)] at c_46
        have ee : e = 12 := by omega
        subst ee
        refine J_iload_n (i := 1) (n := 66) dX7_count_65 rfl rfl rfl ?_
        by_cases e_66_0 : w = 0
        · rw [e_66_0]
          refine J_tableIn (off := 38) (tgt := 104) dX7_count_66 (by decide) (by decide) (by decide) (by decide) ?_
          refine J_aload_n (i := 0) (n := 105) dX7_count_104 rfl rfl rfl ?_
          refine T_get (k := 0) (n := 108) wk_X7 dX7_count_105 wf_X7_7 (by decide) (by first | assumption | decide) rfl rfl ?_
          refine J_bipush (n := 110) dX7_count_108 kB_38 rfl ?_
          refine T_iald (c := 7) (k := 0) (N := 171) (n := 111) dX7_count_110 (by decide) (by first | assumption | decide) rfl (vp_in_nI (by decide) (by decide)) rfl ?_
          refine J_iret dX7_count_111 rfl (kN_i _) ?_
          unfold sp_count at hq
          rw [if_pos e_66_0] at hq
          rw [nI_clamp (by decide), hsn.1]
          exact hq v hm
        by_cases e_66_1 : w = 1
        · rw [e_66_1]
          refine J_tableIn (off := 46) (tgt := 112) dX7_count_66 (by decide) (by decide) (by decide) (by decide) ?_
          refine J_aload_n (i := 0) (n := 113) dX7_count_112 rfl rfl rfl ?_
          refine T_get (k := 2) (n := 116) wk_X7 dX7_count_113 wf_X7_16 (by decide) (by first | assumption | decide) rfl rfl ?_
          refine J_iconst (n := 117) dX7_count_116 kI_0 rfl ?_
          refine T_zald (n := 118) dX7_count_117 (by first | assumption | decide) (vp_in_nI (by decide) (by decide)) rfl ?_
          rw [nI_clamp (by decide), g0, (hkm 0 (by decide)).1]
          refine J_callSr (n := 121) wS_X7_flag (c_M_flag (d + 11) (S.2.1 0) ⟨rfl, rfl⟩) dX7_count_118 wm_X7_194 wT_X7_flag rfl rfl (Nat.le_of_ble_eq_true rfl) rfl ?_
          refine J_aload_n (i := 0) (n := 122) dX7_count_121 rfl rfl rfl ?_
          refine T_get (k := 2) (n := 125) wk_X7 dX7_count_122 wf_X7_16 (by decide) (by first | assumption | decide) rfl rfl ?_
          refine J_iconst (n := 126) dX7_count_125 kI_1 rfl ?_
          refine T_zald (n := 127) dX7_count_126 (by first | assumption | decide) (vp_in_nI (by decide) (by decide)) rfl ?_
          rw [nI_clamp (by decide), g0, (hkm 1 (by decide)).1]
          refine J_callSr (n := 130) wS_X7_flag (c_M_flag (d + 11) (S.2.1 1) ⟨rfl, rfl⟩) dX7_count_127 wm_X7_194 wT_X7_flag rfl rfl (Nat.le_of_ble_eq_true rfl) rfl ?_
          refine J_iadd (n := 131) dX7_count_130 rfl ?_
          rw [nI_add]
          refine J_iret dX7_count_131 rfl (kN_i _) ?_
          unfold sp_count at hq
          rw [if_neg e_66_0, if_pos e_66_1] at hq
          rw [show cu S.2.1 2 = (S.2.1 0).toNat + (S.2.1 1).toNat from by show 0 + (S.2.1 0).toNat + (S.2.1 1).toNat = _; rw [Nat.zero_add]] at hq
          exact hq v hm
        by_cases e_66_2 : w = 2
        · rw [e_66_2]
          refine J_tableIn (off := 66) (tgt := 132) dX7_count_66 (by decide) (by decide) (by decide) (by decide) ?_
          refine J_aload_n (i := 0) (n := 133) dX7_count_132 rfl rfl rfl ?_
          refine T_get (k := 11) (n := 136) wk_X7 dX7_count_133 wf_X7_76 (by decide) (by first | assumption | decide) rfl rfl ?_
          refine J_iret dX7_count_136 rfl (kN_i _) ?_
          unfold sp_count at hq
          rw [if_neg e_66_0, if_neg e_66_1, if_pos e_66_2] at hq
          rw [htp.2]
          exact hq v hm
        by_cases e_66_3 : w = 3
        · rw [e_66_3]
          refine J_tableIn (off := 71) (tgt := 137) dX7_count_66 (by decide) (by decide) (by decide) (by decide) ?_
          refine J_aload_n (i := 0) (n := 138) dX7_count_137 rfl rfl rfl ?_
          refine T_get (k := 25) (n := 141) wk_X7 dX7_count_138 wf_X7_32 (by decide) (by first | assumption | decide) rfl rfl ?_
          refine J_iconst (n := 142) dX7_count_141 kI_0 rfl ?_
          refine T_iald (c := 7) (k := 25) (N := 4) (n := 143) dX7_count_142 (by decide) (by first | assumption | decide) rfl (vp_in_nI (by decide) (by decide)) rfl ?_
          rw [nI_clamp (by decide), (hsh 0 (by decide)).2.1]
          refine J_bipush (n := 145) dX7_count_143 kB_m4 rfl ?_
          refine J_icmp_ne (tgt := 153) (n := 148) dX7_count_145 (by decide) rfl (fun c_145 => ?_) (fun c_145 => ?_)
          · refine J_aload_n (i := 0) (n := 154) dX7_count_153 rfl rfl rfl ?_
            refine T_get (k := 26) (n := 157) wk_X7 dX7_count_154 wf_X7_35 (by decide) (by first | assumption | decide) rfl rfl ?_
            refine J_iconst (n := 158) dX7_count_157 kI_0 rfl ?_
            refine T_iald (c := 7) (k := 26) (N := 4) (n := 159) dX7_count_158 (by decide) (by first | assumption | decide) rfl (vp_in_nI (by decide) (by decide)) rfl ?_
            refine J_iret dX7_count_159 rfl (kN_i _) ?_
            unfold sp_count at hq
            rw [if_neg e_66_0, if_neg e_66_1, if_neg e_66_2, if_pos e_66_3] at hq
            have hxb := (hS.2.2.2 0 (by decide)).2
            by_cases e9 : (S.2.2.2.2.2 0).2.1 = 9
            · rw [if_pos e9] at hq
              first
              | exact hq v hm
              | exact absurd (by rw [if_pos e9]) c_145
            · rw [if_neg e9] at hq
              first
              | (rw [nI_clamp (by decide), (hsh 0 (by decide)).2.2]; exact hq v hm)
              | (rw [if_neg e9] at c_145; exact absurd c_145 (cd_ne (by omega)))
          · refine J_bipush (n := 150) dX7_count_148 kB_m4 rfl ?_
            refine J_goto (tgt := 159) dX7_count_150 (by decide) ?_
            refine J_iret dX7_count_159 rfl (kN_i _) ?_
            unfold sp_count at hq
            rw [if_neg e_66_0, if_neg e_66_1, if_neg e_66_2, if_pos e_66_3] at hq
            have hxb := (hS.2.2.2 0 (by decide)).2
            by_cases e9 : (S.2.2.2.2.2 0).2.1 = 9
            · rw [if_pos e9] at hq
              first
              | exact hq v hm
              | exact absurd (by rw [if_pos e9]) c_145
            · rw [if_neg e9] at hq
              first
              | (rw [nI_clamp (by decide), (hsh 0 (by decide)).2.2]; exact hq v hm)
              | (rw [if_neg e9] at c_145; exact absurd c_145 (cd_ne (by omega)))
        by_cases e_66_4 : w = 4
        · rw [e_66_4]
          refine J_tableIn (off := 94) (tgt := 160) dX7_count_66 (by decide) (by decide) (by decide) (by decide) ?_
          refine J_iload_n (i := 2) (n := 161) dX7_count_160 rfl rfl rfl ?_
          refine J_iret dX7_count_161 rfl (kN_i _) ?_
          unfold sp_count at hq
          rw [if_neg e_66_0, if_neg e_66_1, if_neg e_66_2, if_neg e_66_3, if_pos e_66_4] at hq
          exact hq v hm
        by_cases e_66_5 : w = 5
        · rw [e_66_5]
          refine J_tableIn (off := 96) (tgt := 162) dX7_count_66 (by decide) (by decide) (by decide) (by decide) ?_
          refine J_iload_n (i := 3) (n := 163) dX7_count_162 rfl rfl rfl ?_
          refine J_iret dX7_count_163 rfl (kN_i _) ?_
          unfold sp_count at hq
          rw [if_neg e_66_0, if_neg e_66_1, if_neg e_66_2, if_neg e_66_3, if_neg e_66_4, if_pos e_66_5] at hq
          exact hq v hm
        refine J_tableOut (tgt := 164) dX7_count_66 (by have q_0 := lv_neT (a := 0) e_66_0 rfl; have q_1 := lv_neT (a := 1) e_66_1 rfl; have q_2 := lv_neT (a := 2) e_66_2 rfl; have q_3 := lv_neT (a := 3) e_66_3 rfl; have q_4 := lv_neT (a := 4) e_66_4 rfl; have q_5 := lv_neT (a := 5) e_66_5 rfl; omega) (by decide) ?_
        refine J_iconst (n := 165) dX7_count_164 kI_m1 rfl ?_
        refine J_iret dX7_count_165 rfl (kN_i _) ?_
        unfold sp_count at hq
        rw [if_neg e_66_0, if_neg e_66_1, if_neg e_66_2, if_neg e_66_3, if_neg e_66_4, if_neg e_66_5] at hq
        exact hq v hm
      · rw [nI_leI (by omega) (by omega)] at c_46
        refine J_iload_n (i := 3) (n := 50) dX7_count_49 rfl rfl rfl ?_
        refine J_aload_n (i := 0) (n := 51) dX7_count_50 rfl rfl rfl ?_
        refine T_get (k := 0) (n := 54) wk_X7 dX7_count_51 wf_X7_7 (by decide) (by first | assumption | decide) rfl rfl ?_
        refine J_iload (i := 4) (n := 56) dX7_count_54 rfl rfl ?_
        refine T_iald (c := 7) (k := 0) (N := 171) (n := 57) dX7_count_56 (by decide) (by first | assumption | decide) rfl (vp_in_nI (by omega) (by decide)) rfl ?_
        rw [nI_clamp (by omega), ha.1 e (by omega)]
        refine J_iadd (n := 58) dX7_count_57 rfl ?_
        rw [nI_add]
        refine J_istore_n (i := 3) (n := 59) (lv' := [(0, _), (1, _), (2, _), (3, _), (4, _)]) dX7_count_58 rfl (by decide) rfl rfl ?_
        refine J_inc (i := 4) (n := 62) (lv' := [(0, _), (1, _), (2, _), (3, _), (4, _)]) dX7_count_59 rfl (by decide) rfl rfl ?_
        refine J_goto (tgt := 42) dX7_count_62 (by decide) ?_
        exact ih (e + 1) (by omega) (by omega)
  have loop : ∀ u e, S.1.1.2.2 6 - e < u → e ≤ S.1.1.2.2 6 → gx_J G mX7_count (d + 12) 0 0 Q 7 [(0, .ref (gs_a G 7 0 0)), (1, .int w), (2, .int (nI (su (S.1.1.1 3) e))), (3, .int (nI 0)), (4, .int (nI e))] [] (hp G (gs_set σ 7 0 v)) := by
    intro u
    induction u with
    | zero => intros; exact absurd (by assumption) (Nat.not_lt_zero _)
    | succ u ih =>
      intro e hu he
      refine J_iload (i := 4) (n := 9) dX7_count_7 rfl rfl ?_
      refine J_aload_n (i := 0) (n := 10) dX7_count_9 rfl rfl rfl ?_
      refine T_get (k := 3) (n := 13) wk_X7 dX7_count_10 wf_X7_67 (by decide) (by first | assumption | decide) rfl rfl ?_
      rw [hgl]
      refine J_icmp_ge (tgt := 39) (n := 16) dX7_count_13 (by decide) rfl (fun c_13 => ?_) (fun c_13 => ?_)
      · rw [nI_leI (by omega) (by omega)] at c_13
        have ee : e = S.1.1.2.2 6 := by omega
        subst ee
        refine J_iconst (n := 40) dX7_count_39 kI_0 rfl ?_
        refine J_istore (i := 4) (n := 42) (lv' := [(0, _), (1, _), (2, _), (3, _), (4, _)]) dX7_count_40 (by decide) rfl rfl ?_
        exact loop2 13 0 (by omega) (by omega)
      · rw [nI_leI (by omega) (by omega)] at c_13
        refine J_iload_n (i := 2) (n := 17) dX7_count_16 rfl rfl rfl ?_
        refine J_aload_n (i := 0) (n := 18) dX7_count_17 rfl rfl rfl ?_
        refine T_get (k := 0) (n := 21) wk_X7 dX7_count_18 wf_X7_7 (by decide) (by first | assumption | decide) rfl rfl ?_
        refine J_bipush (n := 23) dX7_count_21 kB_12 rfl ?_
        refine J_iconst (n := 24) dX7_count_23 kI_4 rfl ?_
        refine J_iload (i := 4) (n := 26) dX7_count_24 rfl rfl ?_
        refine J_imul (n := 27) dX7_count_26 rfl ?_
        rw [pk_mul]
        refine J_iadd (n := 28) dX7_count_27 rfl ?_
        rw [nI_add]
        refine J_iconst (n := 29) dX7_count_28 kI_2 rfl ?_
        refine J_iadd (n := 30) dX7_count_29 rfl ?_
        rw [nI_add]
        refine T_iald (c := 7) (k := 0) (N := 171) (n := 31) dX7_count_30 (by decide) (by first | assumption | decide) rfl (vp_in_nI (by omega) (by decide)) rfl ?_
        rw [nI_clamp (by omega), (ha.2.1 e (by omega)).2.2.1]
        refine J_iadd (n := 32) dX7_count_31 rfl ?_
        rw [nI_add]
        refine J_istore_n (i := 2) (n := 33) (lv' := [(0, _), (1, _), (2, _), (3, _), (4, _)]) dX7_count_32 rfl (by decide) rfl rfl ?_
        refine J_inc (i := 4) (n := 36) (lv' := [(0, _), (1, _), (2, _), (3, _), (4, _)]) dX7_count_33 rfl (by decide) rfl rfl ?_
        refine J_goto (tgt := 7) dX7_count_36 (by decide) ?_
        exact ih (e + 1) (by omega) (by omega)
  exact loop (S.1.1.2.2 6 + 1) 0 (by omega) (by omega)

