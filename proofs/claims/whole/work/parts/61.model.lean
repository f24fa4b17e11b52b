/-! ===== model: the text ===== -/
theorem gsf_s (v : gs_Ob) (k : Nat) (x : Int32) : (gs_f v k x).2.1 k = x := by simp [gs_f, upd]
theorem gsf_n (v : gs_Ob) {k q : Nat} (x : Int32) (h : q ≠ k) : (gs_f v k x).2.1 q = v.2.1 q := by simp [gs_f, upd, h]
def mA (v w : gs_Ob) (ks : List Nat) : Prop := w.1 = v.1 ∧ ∀ k, k ∉ ks → w.2.1 k = v.2.1 k
theorem mA.rf (v : gs_Ob) (ks : List Nat) : mA v v ks := ⟨rfl, fun _ _ => rfl⟩
theorem mA.tr {u v w : gs_Ob} {ks : List Nat} (h : mA u v ks) (h2 : mA v w ks) : mA u w ks := ⟨h2.1.trans h.1, fun k hk => (h2.2 k hk).trans (h.2 k hk)⟩
theorem mA.f {v w : gs_Ob} {ks : List Nat} (h : mA v w ks) {k : Nat} (x : Int32) (hk : k ∈ ks) : mA v (gs_f w k x) ks := ⟨h.1, fun q hq => (gsf_n w x (fun e => hq (by rw [e]; exact hk))).trans (h.2 q hq)⟩
theorem mA.sub {v w : gs_Ob} {ks kt : List Nat} (h : mA v w ks) (hs : ∀ k, k ∈ ks → k ∈ kt) : mA v w kt := ⟨h.1, fun k hk => h.2 k (fun q => hk (hs k q))⟩
def mtp (v : gs_Ob) (t : Nat → Nat) (L : Nat) : Prop := (∀ q, q < L → v.1 10 q = nI (t q)) ∧ v.2.1 11 = nI L
theorem mA.tp {v w : gs_Ob} {ks : List Nat} {t : Nat → Nat} {L : Nat} (h : mA v w ks) (hk : 11 ∉ ks) (ht : mtp v t L) : mtp w t L := ⟨fun q hq => by rw [h.1]; exact ht.1 q hq, by rw [h.2 11 hk]; exact ht.2⟩
def tOk (t : Nat → Nat) (L : Nat) : Prop := L ≤ 160 ∧ ∀ q, q < L → t q ≤ 127
def bA (t : Nat → Nat) (L p : Nat) : Int32 := if p < L then nI (t p) else -1
theorem bA_in {t : Nat → Nat} {L p : Nat} (ht : tOk t L) {a n : Nat} (ha : 1 ≤ a) (ha2 : a < 2 ^ 30) (hn : n < 2 ^ 30) : (decide (¬ bA t L p < nI a) && decide (¬ nI n < bA t L p)) = (decide (p < L) && (decide (a ≤ t p) && decide (t p ≤ n))) := by
  unfold bA
  by_cases h : p < L
  · have h7 := ht.2 p h
    rw [if_pos h, decide_eq_true h, Bool.true_and]
    congr 1
    · rw [decide_eq_decide, nI_ltI (by omega) (by omega)]; omega
    · rw [decide_eq_decide, nI_ltI (by omega) (by omega)]; omega
  · rw [if_neg h, decide_eq_false h, Bool.false_and]
    have : (-1 : Int32) < nI a := Int32.lt_of_lt_of_le (by decide +kernel) (nI_pos' (by omega))
    rw [decide_eq_false (Classical.not_not.mpr this), Bool.false_and]
theorem bA_eq {t : Nat → Nat} {L p : Nat} (ht : tOk t L) {c : Nat} (hc : c < 2 ^ 30) : bA t L p = nI c ↔ p < L ∧ t p = c := by
  unfold bA
  by_cases h : p < L
  · have h7 := ht.2 p h
    rw [if_pos h, nI_eq (by omega) (by omega)]
    exact ⟨fun q => ⟨h, q⟩, fun q => q.2⟩
  · rw [if_neg h]
    refine ⟨fun q => absurd q ?_, fun q => absurd q.1 h⟩
    intro q
    have h1 := nI_pos' (n := c) (by omega)
    rw [← q] at h1
    exact absurd h1 (by decide +kernel)
theorem bA_neg {t : Nat → Nat} {L p : Nat} (ht : tOk t L) : 0 ≤ bA t L p ↔ p < L := by
  unfold bA
  by_cases h : p < L
  · have h7 := ht.2 p h
    rw [if_pos h]; exact ⟨fun _ => h, fun _ => nI_pos' (by omega)⟩
  · rw [if_neg h]; exact ⟨fun q => absurd q (by decide +kernel), fun q => absurd q h⟩
def mtk (v : gs_Ob) (t : Nat → Nat) (L i : Nat) : Prop := if (tk t L i).1 = 4 then v.2.1 16 = nI 1 ∧ v.2.1 17 = nI (tb t L i) else v.2.1 16 = nI 0 ∧ v.2.1 13 = nI (tb t L i) ∧ v.2.1 12 = nI (tk t L i).2.1 ∧ v.2.1 14 = nI (tk t L i).1 ∧ ((tk t L i).1 = 2 → v.2.1 15 = nI (tk t L i).2.2)
def mflt (v : gs_Ob) (e : pE) : Prop := v.2.1 16 = nI e.1 ∧ v.2.1 17 = nI e.2 ∧ 1 ≤ e.1 ∧ e.1 ≤ 5
def mst (v : gs_Ob) (t : Nat → Nat) (L : Nat) (x : pE ⊕ Nat) : Prop := match x with
  | .inl e => mflt v e
  | .inr i => mtk v t L i ∧ i ≤ L
def msx (v : gs_Ob) (L : Nat) (x : pE ⊕ Nat) : Prop := match x with
  | .inl e => mflt v e
  | .inr i => v.2.1 16 = nI 0 ∧ v.2.1 12 = nI i ∧ i ≤ L
def rqv (v : gs_Ob) (b : Bool) (c : Int32) : gs_Ob := if (b || !decide (v.2.1 16 = 0)) = true then v else gs_f (gs_f v 16 c) 17 (v.2.1 13)
theorem rqv_t (v : gs_Ob) (c : Int32) : rqv v true c = v := rfl
theorem rqv_f {v : gs_Ob} (b : Bool) (c : Int32) (h : ¬ v.2.1 16 = 0) : rqv v b c = v := by
  unfold rqv
  rw [if_pos (by rw [decide_eq_false h]; cases b <;> rfl)]
theorem rqv_n {v : gs_Ob} (c : Int32) (h : v.2.1 16 = 0) : rqv v false c = gs_f (gs_f v 16 c) 17 (v.2.1 13) := by
  unfold rqv
  rw [if_neg (by rw [decide_eq_true h]; decide)]
set_option maxHeartbeats 4000000 in
set_option maxRecDepth 100000 in
theorem c_M_requires {G : gx_G} {σ : gs_S} {Q : Option Value → gx_Hp → Prop} {v : gs_Ob} (d : Nat) (b : Bool) (c : Int32) (hq : Q none (hp G (gs_set σ 7 0 (rqv v b c)))) : gx_K G yX7_requires mX7_requires d 0 0 [.ref (gs_a G 7 0 0), .int (nI b.toNat), .int c] (hp G (gs_set σ 7 0 v)) Q := by
  refine gx_K.of' (lv := [(0, _), (1, _), (2, _)]) (by decide) rfl (by decide) (Nat.le_of_ble_eq_true rfl) rfl ?_
  refine J_iload_n (i := 1) (n := 1) dX7_requires_0 rfl rfl rfl ?_
  refine J_if_ne (tgt := 24) (n := 4) dX7_requires_1 (by decide) rfl (fun c_1 => ?_) (fun c_1 => ?_)
  · refine J_vret dX7_requires_24 rfl ?_
    first
    | (have hb := (nb_t _).mp c_1
       rw [hb, rqv_t] at hq
       exact hq)
    | (rw [rqv_f b c c_8] at hq
       exact hq)
    | (have hb := (nb_0 _).mp c_1
       rw [hb, rqv_n c c_8] at hq
       exact hq)
  · refine J_aload_n (i := 0) (n := 5) dX7_requires_4 rfl rfl rfl ?_
    refine T_get (k := 16) (n := 8) wk_X7 dX7_requires_5 wf_X7_79 (by decide) (by decide) rfl rfl ?_
    refine J_if_ne (tgt := 24) (n := 11) dX7_requires_8 (by decide) rfl (fun c_8 => ?_) (fun c_8 => ?_)
    · refine J_vret dX7_requires_24 rfl ?_
      first
      | (have hb := (nb_t _).mp c_1
         rw [hb, rqv_t] at hq
         exact hq)
      | (rw [rqv_f b c c_8] at hq
         exact hq)
      | (have hb := (nb_0 _).mp c_1
         rw [hb, rqv_n c c_8] at hq
         exact hq)
    · refine J_aload_n (i := 0) (n := 12) dX7_requires_11 rfl rfl rfl ?_
      refine J_iload_n (i := 2) (n := 13) dX7_requires_12 rfl rfl rfl ?_
      refine T_putI (k := 16) (n := 16) wk_X7 dX7_requires_13 wf_X7_79 (by decide) (by decide) (kN_i _) rfl (Nat.le_of_ble_eq_true rfl) rfl rfl ?_
      refine J_aload_n (i := 0) (n := 17) dX7_requires_16 rfl rfl rfl ?_
      refine J_aload_n (i := 0) (n := 18) dX7_requires_17 rfl rfl rfl ?_
      refine T_get (k := 13) (n := 21) wk_X7 dX7_requires_18 wf_X7_82 (by decide) (by decide) rfl rfl ?_
      refine T_putI (k := 17) (n := 24) wk_X7 dX7_requires_21 wf_X7_85 (by decide) (by decide) (kN_i _) rfl (Nat.le_of_ble_eq_true rfl) rfl rfl ?_
      refine J_vret dX7_requires_24 rfl ?_
      first
      | (have hb := (nb_t _).mp c_1
         rw [hb, rqv_t] at hq
         exact hq)
      | (rw [rqv_f b c c_8] at hq
         exact hq)
      | (have hb := (nb_0 _).mp c_1
         rw [hb, rqv_n c c_8] at hq
         exact hq)

set_option maxHeartbeats 4000000 in
set_option maxRecDepth 100000 in
theorem c_M_byteAt {G : gx_G} {σ : gs_S} {Q : Option Value → gx_Hp → Prop} {v : gs_Ob} {t : Nat → Nat} {L : Nat} (d : Nat) {p : Nat} (hp0 : p < 2 ^ 30) (ht : tOk t L) (hv : mtp v t L) (hq : Q (some (.int (bA t L p))) (hp G (gs_set σ 7 0 v))) : gx_K G yX7_byteAt mX7_byteAt d 0 0 [.ref (gs_a G 7 0 0), .int (nI p)] (hp G (gs_set σ 7 0 v)) Q := by
  have hL := ht.1
  refine gx_K.of' (lv := [(0, _), (1, _)]) (by decide) rfl (by decide) (Nat.le_of_ble_eq_true rfl) rfl ?_
  refine J_iload_n (i := 1) (n := 1) dX7_byteAt_0 rfl rfl rfl ?_
  refine J_aload_n (i := 0) (n := 2) dX7_byteAt_1 rfl rfl rfl ?_
  refine T_get (k := 11) (n := 5) wk_X7 dX7_byteAt_2 wf_X7_76 (by decide) (by decide) rfl rfl ?_
  rw [hv.2]
  refine J_icmp_ge (tgt := 17) (n := 8) dX7_byteAt_5 (by decide) rfl (fun c_5 => ?_) (fun c_5 => ?_)
  · rw [nI_leI (by omega) (by omega)] at c_5
    refine J_iconst (n := 18) dX7_byteAt_17 kI_m1 rfl ?_
    refine J_iret dX7_byteAt_18 rfl (kN_i _) ?_
    unfold bA at hq
    first
    | (rw [if_pos (by omega)] at hq; exact hq)
    | (rw [if_neg (by omega)] at hq; exact hq)
  · rw [nI_leI (by omega) (by omega)] at c_5
    refine J_aload_n (i := 0) (n := 9) dX7_byteAt_8 rfl rfl rfl ?_
    refine T_get (k := 10) (n := 12) wk_X7 dX7_byteAt_9 wf_X7_23 (by decide) (by decide) rfl rfl ?_
    refine J_iload_n (i := 1) (n := 13) dX7_byteAt_12 rfl rfl rfl ?_
    refine T_iald (c := 7) (k := 10) (N := 160) (n := 14) dX7_byteAt_13 (by decide) (by decide) rfl (vp_in_nI (by omega) (by decide)) rfl ?_
    rw [nI_clamp (by omega), hv.1 p (by omega)]
    refine J_goto (tgt := 18) dX7_byteAt_14 (by decide) ?_
    refine J_iret dX7_byteAt_18 rfl (kN_i _) ?_
    unfold bA at hq
    first
    | (rw [if_pos (by omega)] at hq; exact hq)
    | (rw [if_neg (by omega)] at hq; exact hq)

set_option maxHeartbeats 4000000 in
set_option maxRecDepth 100000 in
theorem j_rd_8 {G : gx_G} {σ : gs_S} {Q : Option Value → gx_Hp → Prop} (d : Nat) {t : Nat → Nat} {L : Nat} (ht : tOk t L) {v : gs_Ob} {i : Nat} (htp : mtp v t L) (k34 : ∀ v1, mA v v1 [12] → v1.2.1 12 = nI (tb t L i) → gx_J G mX7_reads (d + 2) 0 0 Q 34 [(0, .ref (gs_a G 7 0 0))] [] (hp G (gs_set σ 7 0 v1))) : ∀ u p v1, L - p < u → p ≤ L → mA v v1 [12] → v1.2.1 12 = nI p → tb t L i = tb t L p → gx_J G mX7_reads (d + 2) 0 0 Q 8 [(0, .ref (gs_a G 7 0 0))] [] (hp G (gs_set σ 7 0 v1)) := by
  have hL := ht.1
  intro u
  induction u with
  | zero => intros; exact absurd (by assumption) (Nat.not_lt_zero _)
  | succ u ihu =>
    intro p v1 hu hp0 hA h12 htb
    refine J_aload_n (i := 0) (n := 9) dX7_reads_8 rfl rfl rfl ?_
    refine J_aload_n (i := 0) (n := 10) dX7_reads_9 rfl rfl rfl ?_
    refine T_get (k := 12) (n := 13) wk_X7 dX7_reads_10 wf_X7_88 (by decide) (by decide) rfl rfl ?_
    rw [h12]
    refine J_callVr (n := 16) wS_X7_byteAt (c_M_byteAt (d + 1) (p := p) (by omega) ht (hA.tp (by decide) htp) ⟨rfl, rfl⟩) dX7_reads_13 wm_X7_91 ⟨wM_X7_byteAt, wV_X7_byteAt⟩ rfl (T_recv (by decide) (by decide)) rfl rfl (Nat.le_of_ble_eq_true rfl) rfl ?_
    refine J_bipush (n := 18) dX7_reads_16 kB_32 rfl ?_
    refine J_icmp_ne (tgt := 34) (n := 21) dX7_reads_18 (by decide) rfl (fun c_18 => ?_) (fun c_18 => ?_)
    · refine k34 v1 hA ?_
      rw [h12, htb]
      rw [bA_eq ht (by decide)] at c_18
      rw [show tb t L p = p from tn_f (by
        by_cases hl : p < L
        · right
          unfold isB
          exact decide_eq_false (fun q => c_18 ⟨hl, q⟩)
        · left; omega)]
    · rw [bA_eq ht (by decide)] at c_18
      refine J_aload_n (i := 0) (n := 22) dX7_reads_21 rfl rfl rfl ?_
      refine J_dup (n := 23) dX7_reads_22 rfl rfl ?_
      refine T_get (k := 12) (n := 26) wk_X7 dX7_reads_23 wf_X7_88 (by decide) (by decide) rfl rfl ?_
      rw [h12]
      refine J_iconst (n := 27) dX7_reads_26 kI_1 rfl ?_
      refine J_iadd (n := 28) dX7_reads_27 rfl ?_
      rw [nI_add]
      refine T_putI (k := 12) (n := 31) wk_X7 dX7_reads_28 wf_X7_88 (by decide) (by decide) (kN_i _) rfl (Nat.le_of_ble_eq_true rfl) rfl rfl ?_
      refine J_goto (tgt := 8) dX7_reads_31 (by decide) ?_
      exact ihu (p + 1) _ (by omega) (by omega) (hA.f _ (by decide)) (gsf_s _ _ _) (by rw [htb]; exact tn_t c_18.1 (by unfold isB; rw [c_18.2]; rfl))
set_option maxHeartbeats 4000000 in
set_option maxRecDepth 100000 in
theorem j_rd_82 {G : gx_G} {σ : gs_S} {Q : Option Value → gx_Hp → Prop} (d : Nat) {t : Nat → Nat} {L : Nat} (ht : tOk t L) {v : gs_Ob} {b : Nat} {x1 : Int32} (htp : mtp v t L) (k274 : ∀ v1, mA v v1 [12] → v1.2.1 12 = nI (tn isL t L b) → gx_J G mX7_reads (d + 2) 0 0 Q 274 [(0, .ref (gs_a G 7 0 0)), (1, .int x1)] [] (hp G (gs_set σ 7 0 v1))) : ∀ u p v1, L - p < u → p ≤ L → mA v v1 [12] → v1.2.1 12 = nI p → tn isL t L b = tn isL t L p → gx_J G mX7_reads (d + 2) 0 0 Q 82 [(0, .ref (gs_a G 7 0 0)), (1, .int x1)] [] (hp G (gs_set σ 7 0 v1)) := by
  have hL := ht.1
  intro u
  induction u with
  | zero => intros; exact absurd (by assumption) (Nat.not_lt_zero _)
  | succ u ihu =>
    intro p v1 hu hp0 hA h12 htb
    refine J_aload_n (i := 0) (n := 83) dX7_reads_82 rfl rfl rfl ?_
    refine J_aload_n (i := 0) (n := 84) dX7_reads_83 rfl rfl rfl ?_
    refine T_get (k := 12) (n := 87) wk_X7 dX7_reads_84 wf_X7_88 (by decide) (by decide) rfl rfl ?_
    rw [h12]
    refine J_callVr (n := 90) wS_X7_byteAt (c_M_byteAt (d + 1) (p := p) (by omega) ht (hA.tp (by decide) htp) ⟨rfl, rfl⟩) dX7_reads_87 wm_X7_91 ⟨wM_X7_byteAt, wV_X7_byteAt⟩ rfl (T_recv (by decide) (by decide)) rfl rfl (Nat.le_of_ble_eq_true rfl) rfl ?_
    refine J_i2l (n := 91) dX7_reads_90 rfl ?_
    refine J_ldc2 (n := 94) dX7_reads_91 wd_X7_106 rfl ?_
    refine J_ldc2 (n := 97) dX7_reads_94 wd_X7_108 rfl ?_
    refine J_callSr (n := 100) wS_X7_in (c_M_inL (d + 1) (bA t L p) 97 122 (by decide) (by decide) ⟨rfl, rfl⟩) dX7_reads_97 wm_X7_72 wT_X7_in rfl rfl (Nat.le_of_ble_eq_true rfl) rfl ?_
    refine J_if_eq (tgt := 274) (n := 103) dX7_reads_100 (by decide) rfl (fun c_100 => ?_) (fun c_100 => ?_)
    · refine k274 v1 hA ?_
      rw [nb_0, bA_in ht (by decide) (by decide) (by decide)] at c_100
      rw [h12, htb, tn_f (by
        by_cases hl : p < L
        · right
          rw [decide_eq_true hl, Bool.true_and] at c_100
          exact c_100
        · left; omega)]
    · rw [nb_t, bA_in ht (by decide) (by decide) (by decide), Bool.and_eq_true, decide_eq_true_eq] at c_100
      refine J_aload_n (i := 0) (n := 104) dX7_reads_103 rfl rfl rfl ?_
      refine J_dup (n := 105) dX7_reads_104 rfl rfl ?_
      
      refine T_get (k := 12) (n := 108) wk_X7 dX7_reads_105 wf_X7_88 (by decide) (by decide) rfl rfl ?_
      rw [h12]
      refine J_iconst (n := 109) dX7_reads_108 kI_1 rfl ?_
      refine J_iadd (n := 110) dX7_reads_109 rfl ?_
      rw [nI_add]
      refine T_putI (k := 12) (n := 113) wk_X7 dX7_reads_110 wf_X7_88 (by decide) (by decide) (kN_i _) rfl (Nat.le_of_ble_eq_true rfl) rfl rfl ?_
      refine J_goto (tgt := 82) dX7_reads_113 (by decide) ?_
      exact ihu (p + 1) _ (by omega) (by omega) (hA.f _ (by decide)) (gsf_s _ _ _) (by rw [htb]; exact tn_t c_100.1 c_100.2)
theorem nv_min {t : Nat → Nat} {b p : Nat} (h : b ≤ p) (h2 : p - b < 2) : nv t b (min (p + 1 - b) 2) = 10 * nv t b (min (p - b) 2) + (t p - 48) := by
  rw [show min (p + 1 - b) 2 = (p - b) + 1 by omega, show min (p - b) 2 = p - b by omega]
  show 10 * nv t b (p - b) + (t (b + (p - b)) - 48) = _
  rw [show b + (p - b) = p by omega]
set_option maxHeartbeats 4000000 in
set_option maxRecDepth 100000 in
theorem j_rd_140 {G : gx_G} {σ : gs_S} {Q : Option Value → gx_Hp → Prop} (d : Nat) {t : Nat → Nat} {L : Nat} (ht : tOk t L) {v : gs_Ob} {b : Nat} {x1 : Int32} (htp : mtp v t L) (hbv : v.2.1 13 = nI b) (k217 : ∀ v1, mA v v1 [12, 15] → v1.2.1 12 = nI (tn isF t L b) → v1.2.1 15 = nI (nv t b (min (tn isF t L b - b) 2)) → gx_J G mX7_reads (d + 2) 0 0 Q 217 [(0, .ref (gs_a G 7 0 0)), (1, .int x1)] [] (hp G (gs_set σ 7 0 v1))) : ∀ u p v1, L - p < u → p ≤ L → b ≤ p → (∀ q, b ≤ q → q < p → isF (t q) = true) → mA v v1 [12, 15] → v1.2.1 12 = nI p → v1.2.1 15 = nI (nv t b (min (p - b) 2)) → tn isF t L b = tn isF t L p → gx_J G mX7_reads (d + 2) 0 0 Q 140 [(0, .ref (gs_a G 7 0 0)), (1, .int x1)] [] (hp G (gs_set σ 7 0 v1)) := by
  have hL := ht.1
  intro u
  induction u with
  | zero => intros; exact absurd (by assumption) (Nat.not_lt_zero _)
  | succ u ihu =>
    intro p v1 hu hp0 hbp hq0 hA h12 h15 htb
    have hnv : nv t b (min (p - b) 2) ≤ 99 := nv_le (fun q hq => hq0 _ (by omega) (by omega)) (by omega)
    refine J_aload_n (i := 0) (n := 141) dX7_reads_140 rfl rfl rfl ?_
    refine J_aload_n (i := 0) (n := 142) dX7_reads_141 rfl rfl rfl ?_
    refine T_get (k := 12) (n := 145) wk_X7 dX7_reads_142 wf_X7_88 (by decide) (by decide) rfl rfl ?_
    rw [h12]
    refine J_callVr (n := 148) wS_X7_byteAt (c_M_byteAt (d + 1) (p := p) (by omega) ht (hA.tp (by decide) htp) ⟨rfl, rfl⟩) dX7_reads_145 wm_X7_91 ⟨wM_X7_byteAt, wV_X7_byteAt⟩ rfl (T_recv (by decide) (by decide)) rfl rfl (Nat.le_of_ble_eq_true rfl) rfl ?_
    refine J_i2l (n := 149) dX7_reads_148 rfl ?_
    refine J_ldc2 (n := 152) dX7_reads_149 wd_X7_110 rfl ?_
    refine J_ldc2 (n := 155) dX7_reads_152 wd_X7_112 rfl ?_
    refine J_callSr (n := 158) wS_X7_in (c_M_inL (d + 1) (bA t L p) 48 57 (by decide) (by decide) ⟨rfl, rfl⟩) dX7_reads_155 wm_X7_72 wT_X7_in rfl rfl (Nat.le_of_ble_eq_true rfl) rfl ?_
    refine J_if_eq (tgt := 217) (n := 161) dX7_reads_158 (by decide) rfl (fun c_158 => ?_) (fun c_158 => ?_)
    · rw [nb_0, bA_in ht (by decide) (by decide) (by decide)] at c_158
      have hz : tn isF t L p = p := tn_f (by
        by_cases hl : p < L
        · right
          rw [decide_eq_true hl, Bool.true_and] at c_158
          exact c_158
        · left; omega)
      have hend : tn isF t L b = p := by rw [htb, hz]
      refine k217 v1 hA (by rw [hend]; exact h12) (by rw [hend]; exact h15)
    · rw [nb_t, bA_in ht (by decide) (by decide) (by decide), Bool.and_eq_true, decide_eq_true_eq] at c_158
      have hF : isF (t p) = true := c_158.2
      have h48 : 48 ≤ t p := by have := hF; unfold isF at this; rw [Bool.and_eq_true, decide_eq_true_eq] at this; exact this.1
      have h127 := ht.2 p c_158.1
      have h13 : v1.2.1 13 = nI b := by rw [hA.2 13 (by decide)]; exact hbv
      refine J_aload_n (i := 0) (n := 162) dX7_reads_161 rfl rfl rfl ?_
      refine J_aload_n (i := 0) (n := 163) dX7_reads_162 rfl rfl rfl ?_
      refine T_get (k := 12) (n := 166) wk_X7 dX7_reads_163 wf_X7_88 (by decide) (by decide) rfl rfl ?_
      rw [h12]
      refine J_aload_n (i := 0) (n := 167) dX7_reads_166 rfl rfl rfl ?_
      refine T_get (k := 13) (n := 170) wk_X7 dX7_reads_167 wf_X7_82 (by decide) (by decide) rfl rfl ?_
      rw [h13]
      refine J_isub (n := 171) dX7_reads_170 rfl ?_
      rw [pk_sub hbp]
      refine J_iconst (n := 172) dX7_reads_171 kI_2 rfl ?_
      refine J_icmp_ge (tgt := 197) (n := 175) dX7_reads_172 (by decide) rfl (fun c_172 => ?_) (fun c_172 => ?_)
      · rw [nI_leI (by omega) (by omega)] at c_172
        refine J_aload_n (i := 0) (n := 198) dX7_reads_197 rfl rfl rfl ?_
        refine T_get (k := 15) (n := 201) wk_X7 dX7_reads_198 wf_X7_114 (by decide) (by decide) rfl rfl ?_
        
        refine T_putI (k := 15) (n := 204) wk_X7 dX7_reads_201 wf_X7_114 (by decide) (by decide) (kN_i _) rfl (Nat.le_of_ble_eq_true rfl) rfl rfl ?_
        refine J_aload_n (i := 0) (n := 205) dX7_reads_204 rfl rfl rfl ?_
        refine J_dup (n := 206) dX7_reads_205 rfl rfl ?_
        refine T_get (k := 12) (n := 209) wk_X7 dX7_reads_206 wf_X7_88 (by decide) (by decide) rfl rfl ?_
        rw [gsf_n _ _ (by decide), h12]
        refine J_iconst (n := 210) dX7_reads_209 kI_1 rfl ?_
        refine J_iadd (n := 211) dX7_reads_210 rfl ?_
        rw [nI_add]
        refine T_putI (k := 12) (n := 214) wk_X7 dX7_reads_211 wf_X7_88 (by decide) (by decide) (kN_i _) rfl (Nat.le_of_ble_eq_true rfl) rfl rfl ?_
        refine J_goto (tgt := 140) dX7_reads_214 (by decide) ?_
        refine ihu (p + 1) _ (by omega) (by omega) (by omega) (fun q q1 q2 => ?_) ((hA.f _ (by decide)).f _ (by decide)) (gsf_s _ _ _) ?_ (by rw [htb]; exact tn_t c_158.1 hF)
        · by_cases e : q = p
          · rw [e]; exact hF
          · exact hq0 q q1 (by omega)
        · rw [gsf_n _ _ (by decide), gsf_s]
          try rw [h15, show min (p - b) 2 = min (p + 1 - b) 2 by omega]
      · rw [nI_leI (by omega) (by omega)] at c_172
        refine J_bipush (n := 177) dX7_reads_175 kB_10 rfl ?_
        refine J_aload_n (i := 0) (n := 178) dX7_reads_177 rfl rfl rfl ?_
        refine T_get (k := 15) (n := 181) wk_X7 dX7_reads_178 wf_X7_114 (by decide) (by decide) rfl rfl ?_
        rw [h15]
        refine J_imul (n := 182) dX7_reads_181 rfl ?_
        rw [pk_mul]
        refine J_aload_n (i := 0) (n := 183) dX7_reads_182 rfl rfl rfl ?_
        refine J_aload_n (i := 0) (n := 184) dX7_reads_183 rfl rfl rfl ?_
        refine T_get (k := 12) (n := 187) wk_X7 dX7_reads_184 wf_X7_88 (by decide) (by decide) rfl rfl ?_
        rw [h12]
        refine J_callVr (n := 190) wS_X7_byteAt (c_M_byteAt (d + 1) (p := p) (by omega) ht (hA.tp (by decide) htp) ⟨rfl, rfl⟩) dX7_reads_187 wm_X7_91 ⟨wM_X7_byteAt, wV_X7_byteAt⟩ rfl (T_recv (by decide) (by decide)) rfl rfl (Nat.le_of_ble_eq_true rfl) rfl ?_
        rw [show bA t L p = nI (t p) from if_pos c_158.1]
        refine J_iadd (n := 191) dX7_reads_190 rfl ?_
        rw [nI_add]
        refine J_bipush (n := 193) dX7_reads_191 kB_48 rfl ?_
        refine J_isub (n := 194) dX7_reads_193 rfl ?_
        rw [pk_sub (by omega), show 10 * nv t b (min (p - b) 2) + t p - 48 = nv t b (min (p + 1 - b) 2) by rw [nv_min hbp (by omega)]; omega]
        refine J_goto (tgt := 201) dX7_reads_194 (by decide) ?_
        
        refine T_putI (k := 15) (n := 204) wk_X7 dX7_reads_201 wf_X7_114 (by decide) (by decide) (kN_i _) rfl (Nat.le_of_ble_eq_true rfl) rfl rfl ?_
        refine J_aload_n (i := 0) (n := 205) dX7_reads_204 rfl rfl rfl ?_
        refine J_dup (n := 206) dX7_reads_205 rfl rfl ?_
        refine T_get (k := 12) (n := 209) wk_X7 dX7_reads_206 wf_X7_88 (by decide) (by decide) rfl rfl ?_
        rw [gsf_n _ _ (by decide), h12]
        refine J_iconst (n := 210) dX7_reads_209 kI_1 rfl ?_
        refine J_iadd (n := 211) dX7_reads_210 rfl ?_
        rw [nI_add]
        refine T_putI (k := 12) (n := 214) wk_X7 dX7_reads_211 wf_X7_88 (by decide) (by decide) (kN_i _) rfl (Nat.le_of_ble_eq_true rfl) rfl rfl ?_
        refine J_goto (tgt := 140) dX7_reads_214 (by decide) ?_
        refine ihu (p + 1) _ (by omega) (by omega) (by omega) (fun q q1 q2 => ?_) ((hA.f _ (by decide)).f _ (by decide)) (gsf_s _ _ _) ?_ (by rw [htb]; exact tn_t c_158.1 hF)
        · by_cases e : q = p
          · rw [e]; exact hF
          · exact hq0 q q1 (by omega)
        · rw [gsf_n _ _ (by decide), gsf_s]
          try rw [h15, show min (p - b) 2 = min (p + 1 - b) 2 by omega]
theorem tk_0 {t : Nat → Nat} {L i : Nat} (h : ¬ tb t L i < L) : tk t L i = (0, tb t L i, 0) := by
  unfold tk tkb
  rw [if_pos (by omega)]
theorem tk_3 {t : Nat → Nat} {L i : Nat} (h : tb t L i < L) (h2 : t (tb t L i) = 59) : tk t L i = (3, tb t L i + 1, 0) := by
  unfold tk tkb
  rw [if_neg (by omega), if_pos h2]
theorem isL_59 {c : Nat} (h : isL c = true) : ¬ c = 59 := by
  unfold isL at h
  rw [Bool.and_eq_true, decide_eq_true_eq, decide_eq_true_eq] at h
  omega
theorem isF_59 {c : Nat} (h : isF c = true) : ¬ c = 59 := by
  unfold isF at h
  rw [Bool.and_eq_true, decide_eq_true_eq, decide_eq_true_eq] at h
  omega
theorem tk_1 {t : Nat → Nat} {L i : Nat} (h : tb t L i < L) (h2 : isL (t (tb t L i)) = true) : tk t L i = (1, tn isL t L (tb t L i), 0) := by
  unfold tk tkb
  rw [if_neg (by omega), if_neg (isL_59 h2), if_pos h2]
theorem tk_2 {t : Nat → Nat} {L i : Nat} (h : tb t L i < L) (h1 : isL (t (tb t L i)) = false) (h2 : isF (t (tb t L i)) = true) : tk t L i = if tn isF t L (tb t L i) - tb t L i ≤ 2 then (2, tn isF t L (tb t L i), nv t (tb t L i) (tn isF t L (tb t L i) - tb t L i)) else (4, 0, 0) := by
  unfold tk tkb
  rw [if_neg (by omega), if_neg (isF_59 h2), if_neg (by rw [h1]; decide), if_pos h2]
theorem tk_4 {t : Nat → Nat} {L i : Nat} (h : tb t L i < L) (h0 : ¬ t (tb t L i) = 59) (h1 : isL (t (tb t L i)) = false) (h2 : isF (t (tb t L i)) = false) : tk t L i = (4, 0, 0) := by
  unfold tk tkb
  rw [if_neg (by omega), if_neg h0, if_neg (by rw [h1]; decide), if_neg (by rw [h2]; decide)]
theorem mtk_of {v : gs_Ob} {t : Nat → Nat} {L i k n x : Nat} (h : tk t L i = (k, n, x)) (h4 : ¬ k = 4) (a : v.2.1 16 = nI 0) (b : v.2.1 13 = nI (tb t L i)) (c : v.2.1 12 = nI n) (e : v.2.1 14 = nI k) (f : k = 2 → v.2.1 15 = nI x) : mtk v t L i := by
  unfold mtk
  rw [h, if_neg h4]
  exact ⟨a, b, c, e, f⟩
theorem mtk_bad {v : gs_Ob} {t : Nat → Nat} {L i n x : Nat} (h : tk t L i = (4, n, x)) (a : v.2.1 16 = nI 1) (b : v.2.1 17 = nI (tb t L i)) : mtk v t L i := by
  unfold mtk
  rw [h, if_pos rfl]
  exact ⟨a, b⟩
set_option maxHeartbeats 4000000 in
set_option maxRecDepth 100000 in
theorem c_M_reads {G : gx_G} {σ : gs_S} {Q : Option Value → gx_Hp → Prop} (d : Nat) {v : gs_Ob} {x : pE ⊕ Nat} {t : Nat → Nat} {L : Nat} (ht : tOk t L) (htp : mtp v t L) (hx : msx v L x) (hq : ∀ v1, mA v v1 [12, 13, 14, 15, 16, 17] → mst v1 t L x → Q none (hp G (gs_set σ 7 0 v1))) : gx_K G yX7_reads mX7_reads (d + 2) 0 0 [.ref (gs_a G 7 0 0)] (hp G (gs_set σ 7 0 v)) Q := by
  have hL := ht.1
  refine gx_K.of' (lv := [(0, _)]) (by decide) rfl (by decide) (Nat.le_of_ble_eq_true rfl) rfl ?_
  cases x with
  | inl e =>
    refine J_aload_n (i := 0) (n := 1) dX7_reads_0 rfl rfl rfl ?_
    refine T_get (k := 16) (n := 4) wk_X7 dX7_reads_1 wf_X7_79 (by decide) (by decide) rfl rfl ?_
    rw [hx.1]
    refine J_if_le (tgt := 8) (n := 7) dX7_reads_4 (by decide) rfl (fun c_4 => ?_) (fun c_4 => ?_)
    · exfalso
      rw [nI_le0 (by have := hx.2.2.2; omega)] at c_4
      have := hx.2.2.1
      omega
    · refine J_vret dX7_reads_7 rfl ?_
      exact hq v (mA.rf _ _) hx
  | inr i =>
    have hiL : i ≤ L := hx.2.2
    have hbL := (tb_le t hiL).2
    refine J_aload_n (i := 0) (n := 1) dX7_reads_0 rfl rfl rfl ?_
    refine T_get (k := 16) (n := 4) wk_X7 dX7_reads_1 wf_X7_79 (by decide) (by decide) rfl rfl ?_
    rw [hx.1]
    refine J_if_le (tgt := 8) (n := 7) dX7_reads_4 (by decide) rfl (fun c_4 => ?_) (fun c_4 => ?_)
    · refine j_rd_8 d ht (v := v) (i := i) htp (fun v1 hA1 h12 => ?_) (L + 1) i v (by omega) hiL (mA.rf _ _) hx.2.1 rfl
      refine J_aload_n (i := 0) (n := 35) dX7_reads_34 rfl rfl rfl ?_
      refine J_aload_n (i := 0) (n := 36) dX7_reads_35 rfl rfl rfl ?_
      refine T_get (k := 12) (n := 39) wk_X7 dX7_reads_36 wf_X7_88 (by decide) (by decide) rfl rfl ?_
      rw [h12]
      refine T_putI (k := 13) (n := 42) wk_X7 dX7_reads_39 wf_X7_82 (by decide) (by decide) (kN_i _) rfl (Nat.le_of_ble_eq_true rfl) rfl rfl ?_
      have hA2 : mA v (gs_f v1 13 (nI (tb t L i))) [12, 13, 14, 15, 16, 17] := (hA1.sub (by decide)).f _ (by decide)
      have e16 : (gs_f v1 13 (nI (tb t L i))).2.1 16 = nI 0 := by rw [gsf_n _ _ (by decide), hA1.2 16 (by decide)]; exact hx.1
      have e13 : (gs_f v1 13 (nI (tb t L i))).2.1 13 = nI (tb t L i) := gsf_s _ _ _
      have e12 : (gs_f v1 13 (nI (tb t L i))).2.1 12 = nI (tb t L i) := by rw [gsf_n _ _ (by decide)]; exact h12
      generalize gs_f v1 13 (nI (tb t L i)) = v2 at hA2 e16 e13 e12 ⊢
      refine J_aload_n (i := 0) (n := 43) dX7_reads_42 rfl rfl rfl ?_
      refine J_aload_n (i := 0) (n := 44) dX7_reads_43 rfl rfl rfl ?_
      refine T_get (k := 12) (n := 47) wk_X7 dX7_reads_44 wf_X7_88 (by decide) (by decide) rfl rfl ?_
      rw [e12]
      refine J_callVr (n := 50) wS_X7_byteAt (c_M_byteAt (d + 1) (p := (tb t L i)) (by omega) ht (hA2.tp (by decide) htp) ⟨rfl, rfl⟩) dX7_reads_47 wm_X7_91 ⟨wM_X7_byteAt, wV_X7_byteAt⟩ rfl (T_recv (by decide) (by decide)) rfl rfl (Nat.le_of_ble_eq_true rfl) rfl ?_
      refine J_istore_n (i := 1) (n := 51) (lv' := [(0, _), (1, _)]) dX7_reads_50 rfl (by decide) rfl rfl ?_
      refine J_iload_n (i := 1) (n := 52) dX7_reads_51 rfl rfl rfl ?_
      refine J_if_ge (tgt := 63) (n := 55) dX7_reads_52 (by decide) rfl (fun c_52 => ?_) (fun c_52 => ?_)
      · rw [bA_neg ht] at c_52
        refine J_iload_n (i := 1) (n := 64) dX7_reads_63 rfl rfl rfl ?_
        refine J_i2l (n := 65) dX7_reads_64 rfl ?_
        refine J_ldc2 (n := 68) dX7_reads_65 wd_X7_106 rfl ?_
        refine J_ldc2 (n := 71) dX7_reads_68 wd_X7_108 rfl ?_
        refine J_callSr (n := 74) wS_X7_in (c_M_inL (d + 1) (bA t L (tb t L i)) 97 122 (by decide) (by decide) ⟨rfl, rfl⟩) dX7_reads_71 wm_X7_72 wT_X7_in rfl rfl (Nat.le_of_ble_eq_true rfl) rfl ?_
        refine J_if_eq (tgt := 116) (n := 77) dX7_reads_74 (by decide) rfl (fun c_74 => ?_) (fun c_74 => ?_)
        · rw [nb_0, bA_in ht (by decide) (by decide) (by decide), decide_eq_true c_52, Bool.true_and] at c_74
          have hnl : isL (t (tb t L i)) = false := c_74
          refine J_iload_n (i := 1) (n := 117) dX7_reads_116 rfl rfl rfl ?_
          refine J_i2l (n := 118) dX7_reads_117 rfl ?_
          refine J_ldc2 (n := 121) dX7_reads_118 wd_X7_110 rfl ?_
          refine J_ldc2 (n := 124) dX7_reads_121 wd_X7_112 rfl ?_
          refine J_callSr (n := 127) wS_X7_in (c_M_inL (d + 1) (bA t L (tb t L i)) 48 57 (by decide) (by decide) ⟨rfl, rfl⟩) dX7_reads_124 wm_X7_72 wT_X7_in rfl rfl (Nat.le_of_ble_eq_true rfl) rfl ?_
          refine J_if_eq (tgt := 243) (n := 130) dX7_reads_127 (by decide) rfl (fun c_127 => ?_) (fun c_127 => ?_)
          · rw [nb_0, bA_in ht (by decide) (by decide) (by decide), decide_eq_true c_52, Bool.true_and] at c_127
            have hnf : isF (t (tb t L i)) = false := c_127
            refine J_aload_n (i := 0) (n := 244) dX7_reads_243 rfl rfl rfl ?_
            refine J_iconst (n := 245) dX7_reads_244 kI_3 rfl ?_
            refine T_putI (k := 14) (n := 248) wk_X7 dX7_reads_245 wf_X7_103 (by decide) (by decide) (kN_i _) rfl (Nat.le_of_ble_eq_true rfl) rfl rfl ?_
            have hA3 := hA2.f (k := 14) (nI 3) (by decide)
            have f16 : (gs_f v2 14 (nI 3)).2.1 16 = nI 0 := by rw [gsf_n _ _ (by decide)]; exact e16
            have f13 : (gs_f v2 14 (nI 3)).2.1 13 = nI (tb t L i) := by rw [gsf_n _ _ (by decide)]; exact e13
            have f12 : (gs_f v2 14 (nI 3)).2.1 12 = nI (tb t L i) := by rw [gsf_n _ _ (by decide)]; exact e12
            have f14 : (gs_f v2 14 (nI 3)).2.1 14 = nI 3 := gsf_s _ _ _
            generalize gs_f v2 14 (nI 3) = v3 at hA3 f16 f13 f12 f14 ⊢
            refine J_aload_n (i := 0) (n := 249) dX7_reads_248 rfl rfl rfl ?_
            refine J_iload_n (i := 1) (n := 250) dX7_reads_249 rfl rfl rfl ?_
            refine J_bipush (n := 252) dX7_reads_250 kB_59 rfl ?_
            refine J_icmp_ne (tgt := 259) (n := 255) dX7_reads_252 (by decide) rfl (fun c_252 => ?_) (fun c_252 => ?_)
            · rw [bA_eq ht (by decide)] at c_252
              have htk := tk_4 c_52 (fun q => c_252 ⟨c_52, q⟩) hnl hnf
              refine J_iconst (n := 260) dX7_reads_259 kI_0 rfl ?_
              refine J_iconst (n := 261) dX7_reads_260 kI_1 rfl ?_
              refine J_callVv (n := 264) wS_X7_requires (c_M_requires (d + 1) false (nI 1) ⟨rfl, rfl⟩) dX7_reads_261 wm_X7_117 ⟨wM_X7_requires, wV_X7_requires⟩ rfl (T_recv (by decide) (by decide)) rfl rfl (Nat.le_of_ble_eq_true rfl) rfl ?_
              rw [rqv_n _ (show v3.2.1 16 = 0 from f16), f13]
              refine J_aload_n (i := 0) (n := 265) dX7_reads_264 rfl rfl rfl ?_
              refine J_dup (n := 266) dX7_reads_265 rfl rfl ?_
              refine T_get (k := 12) (n := 269) wk_X7 dX7_reads_266 wf_X7_88 (by decide) (by decide) rfl rfl ?_
              rw [gsf_n _ _ (by decide), gsf_n _ _ (by decide), f12]
              refine J_iconst (n := 270) dX7_reads_269 kI_1 rfl ?_
              refine J_iadd (n := 271) dX7_reads_270 rfl ?_
              rw [nI_add]
              refine T_putI (k := 12) (n := 274) wk_X7 dX7_reads_271 wf_X7_88 (by decide) (by decide) (kN_i _) rfl (Nat.le_of_ble_eq_true rfl) rfl rfl ?_
              refine J_vret dX7_reads_274 rfl ?_
              exact hq _ (((hA3.f _ (by decide)).f _ (by decide)).f _ (by decide)) ⟨mtk_bad htk (by rw [gsf_n _ _ (by decide), gsf_n _ _ (by decide)]; exact gsf_s _ _ _) (by rw [gsf_n _ _ (by decide)]; exact gsf_s _ _ _), hiL⟩
            · rw [bA_eq ht (by decide)] at c_252
              have htk := tk_3 c_52 c_252.2
              refine J_iconst (n := 256) dX7_reads_255 kI_1 rfl ?_
              refine J_goto (tgt := 260) dX7_reads_256 (by decide) ?_
              refine J_iconst (n := 261) dX7_reads_260 kI_1 rfl ?_
              refine J_callVv (n := 264) wS_X7_requires (c_M_requires (d + 1) true (nI 1) ⟨rfl, rfl⟩) dX7_reads_261 wm_X7_117 ⟨wM_X7_requires, wV_X7_requires⟩ rfl (T_recv (by decide) (by decide)) rfl rfl (Nat.le_of_ble_eq_true rfl) rfl ?_
              rw [rqv_t]
              refine J_aload_n (i := 0) (n := 265) dX7_reads_264 rfl rfl rfl ?_
              refine J_dup (n := 266) dX7_reads_265 rfl rfl ?_
              refine T_get (k := 12) (n := 269) wk_X7 dX7_reads_266 wf_X7_88 (by decide) (by decide) rfl rfl ?_
              rw [f12]
              refine J_iconst (n := 270) dX7_reads_269 kI_1 rfl ?_
              refine J_iadd (n := 271) dX7_reads_270 rfl ?_
              rw [nI_add]
              refine T_putI (k := 12) (n := 274) wk_X7 dX7_reads_271 wf_X7_88 (by decide) (by decide) (kN_i _) rfl (Nat.le_of_ble_eq_true rfl) rfl rfl ?_
              refine J_vret dX7_reads_274 rfl ?_
              exact hq _ (hA3.f _ (by decide)) ⟨mtk_of htk (by decide) (by rw [gsf_n _ _ (by decide)]; exact f16) (by rw [gsf_n _ _ (by decide)]; exact f13) (gsf_s _ _ _) (by rw [gsf_n _ _ (by decide)]; exact f14) (fun q => by cases q), hiL⟩
          · rw [nb_t, bA_in ht (by decide) (by decide) (by decide), Bool.and_eq_true] at c_127
            have htk := tk_2 c_52 hnl (show isF (t (tb t L i)) = true from c_127.2)
            refine J_aload_n (i := 0) (n := 131) dX7_reads_130 rfl rfl rfl ?_
            refine J_iconst (n := 132) dX7_reads_131 kI_2 rfl ?_
            refine T_putI (k := 14) (n := 135) wk_X7 dX7_reads_132 wf_X7_103 (by decide) (by decide) (kN_i _) rfl (Nat.le_of_ble_eq_true rfl) rfl rfl ?_
            refine J_aload_n (i := 0) (n := 136) dX7_reads_135 rfl rfl rfl ?_
            refine J_iconst (n := 137) dX7_reads_136 kI_0 rfl ?_
            refine T_putI (k := 15) (n := 140) wk_X7 dX7_reads_137 wf_X7_114 (by decide) (by decide) (kN_i _) rfl (Nat.le_of_ble_eq_true rfl) rfl rfl ?_
            have hA5 : mA v (gs_f (gs_f v2 14 (nI 2)) 15 (nI 0)) [12, 13, 14, 15, 16, 17] := (hA2.f _ (by decide)).f _ (by decide)
            refine j_rd_140 d ht (v := gs_f (gs_f v2 14 (nI 2)) 15 (nI 0)) (b := (tb t L i)) (hA5.tp (by decide) htp) (by rw [gsf_n _ _ (by decide), gsf_n _ _ (by decide)]; exact e13) (fun v3 hA3 k12 k15 => ?_) (L + 1) (tb t L i) _ (by omega) hbL (Nat.le_refl _) (fun q q1 q2 => by omega) (mA.rf _ _) (by rw [gsf_n _ _ (by decide), gsf_n _ _ (by decide)]; exact e12) (by rw [gsf_s, Nat.sub_self]; rfl) rfl
            have hnL := tn_ge isF t hbL
            have k13 : v3.2.1 13 = nI (tb t L i) := by rw [hA3.2 13 (by decide), gsf_n _ _ (by decide), gsf_n _ _ (by decide)]; exact e13
            have k14 : v3.2.1 14 = nI 2 := by rw [hA3.2 14 (by decide), gsf_n _ _ (by decide)]; exact gsf_s _ _ _
            have k16 : v3.2.1 16 = nI 0 := by rw [hA3.2 16 (by decide), gsf_n _ _ (by decide), gsf_n _ _ (by decide)]; exact e16
            have hA4 := hA5.tr (hA3.sub (by decide))
            refine J_aload_n (i := 0) (n := 218) dX7_reads_217 rfl rfl rfl ?_
            refine J_aload_n (i := 0) (n := 219) dX7_reads_218 rfl rfl rfl ?_
            refine T_get (k := 12) (n := 222) wk_X7 dX7_reads_219 wf_X7_88 (by decide) (by decide) rfl rfl ?_
            rw [k12]
            refine J_aload_n (i := 0) (n := 223) dX7_reads_222 rfl rfl rfl ?_
            refine T_get (k := 13) (n := 226) wk_X7 dX7_reads_223 wf_X7_82 (by decide) (by decide) rfl rfl ?_
            rw [k13]
            refine J_isub (n := 227) dX7_reads_226 rfl ?_
            rw [pk_sub hnL.1]
            refine J_iconst (n := 228) dX7_reads_227 kI_2 rfl ?_
            refine J_icmp_gt (tgt := 235) (n := 231) dX7_reads_228 (by decide) rfl (fun c_228 => ?_) (fun c_228 => ?_)
            · rw [nI_ltI (by omega) (by omega)] at c_228
              rw [if_neg (by omega)] at htk
              refine J_iconst (n := 236) dX7_reads_235 kI_0 rfl ?_
              refine J_iconst (n := 237) dX7_reads_236 kI_1 rfl ?_
              refine J_callVv (n := 240) wS_X7_requires (c_M_requires (d + 1) false (nI 1) ⟨rfl, rfl⟩) dX7_reads_237 wm_X7_117 ⟨wM_X7_requires, wV_X7_requires⟩ rfl (T_recv (by decide) (by decide)) rfl rfl (Nat.le_of_ble_eq_true rfl) rfl ?_
              refine J_goto (tgt := 274) dX7_reads_240 (by decide) ?_
              refine J_vret dX7_reads_274 rfl ?_
              rw [rqv_n _ (show v3.2.1 16 = 0 from k16), k13]
              exact hq _ ((hA4.f _ (by decide)).f _ (by decide)) ⟨mtk_bad htk (by rw [gsf_n _ _ (by decide)]; exact gsf_s _ _ _) (gsf_s _ _ _), hiL⟩
            · rw [nI_ltI (by omega) (by omega)] at c_228
              rw [if_pos (by omega)] at htk
              refine J_iconst (n := 232) dX7_reads_231 kI_1 rfl ?_
              refine J_goto (tgt := 236) dX7_reads_232 (by decide) ?_
              refine J_iconst (n := 237) dX7_reads_236 kI_1 rfl ?_
              refine J_callVv (n := 240) wS_X7_requires (c_M_requires (d + 1) true (nI 1) ⟨rfl, rfl⟩) dX7_reads_237 wm_X7_117 ⟨wM_X7_requires, wV_X7_requires⟩ rfl (T_recv (by decide) (by decide)) rfl rfl (Nat.le_of_ble_eq_true rfl) rfl ?_
              refine J_goto (tgt := 274) dX7_reads_240 (by decide) ?_
              refine J_vret dX7_reads_274 rfl ?_
              rw [rqv_t]
              exact hq _ hA4 ⟨mtk_of htk (by decide) k16 k13 k12 k14 (fun _ => by rw [k15, Nat.min_eq_left (by omega)]), hiL⟩
        · rw [nb_t, bA_in ht (by decide) (by decide) (by decide), Bool.and_eq_true] at c_74
          have hl := c_74.2
          have htk := tk_1 c_52 (show isL (t (tb t L i)) = true from hl)
          refine J_aload_n (i := 0) (n := 78) dX7_reads_77 rfl rfl rfl ?_
          refine J_iconst (n := 79) dX7_reads_78 kI_1 rfl ?_
          refine T_putI (k := 14) (n := 82) wk_X7 dX7_reads_79 wf_X7_103 (by decide) (by decide) (kN_i _) rfl (Nat.le_of_ble_eq_true rfl) rfl rfl ?_
          refine j_rd_82 d ht (v := gs_f v2 14 (nI 1)) (b := (tb t L i)) ((hA2.f _ (by decide)).tp (by decide) htp) (fun v3 hA3 k12 => ?_) (L + 1) (tb t L i) _ (by omega) hbL (mA.rf _ _) (by rw [gsf_n _ _ (by decide)]; exact e12) rfl
          refine J_vret dX7_reads_274 rfl ?_
          exact hq v3 ((hA2.f _ (by decide)).tr (hA3.sub (by decide))) ⟨mtk_of htk (by decide) (by rw [hA3.2 16 (by decide), gsf_n _ _ (by decide)]; exact e16) (by rw [hA3.2 13 (by decide), gsf_n _ _ (by decide)]; exact e13) k12 (by rw [hA3.2 14 (by decide)]; exact gsf_s _ _ _) (fun q => by cases q), hiL⟩
      · rw [bA_neg ht] at c_52
        refine J_aload_n (i := 0) (n := 56) dX7_reads_55 rfl rfl rfl ?_
        refine J_iconst (n := 57) dX7_reads_56 kI_0 rfl ?_
        refine T_putI (k := 14) (n := 60) wk_X7 dX7_reads_57 wf_X7_103 (by decide) (by decide) (kN_i _) rfl (Nat.le_of_ble_eq_true rfl) rfl rfl ?_
        refine J_goto (tgt := 274) dX7_reads_60 (by decide) ?_
        refine J_vret dX7_reads_274 rfl ?_
        have htk := tk_0 c_52
        exact hq _ (hA2.f _ (by decide)) ⟨mtk_of htk (by decide) (by rw [gsf_n _ _ (by decide)]; exact e16) (by rw [gsf_n _ _ (by decide)]; exact e13) (by rw [gsf_n _ _ (by decide)]; exact e12) (gsf_s _ _ _) (fun q => by cases q), hiL⟩
    · exact absurd (show nI 0 ≤ 0 by decide +kernel) c_4
