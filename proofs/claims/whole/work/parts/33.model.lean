def mQ (v w : gs_Ob) : Prop := (∀ k, k = 0 ∨ k = 2 ∨ k = 10 ∨ k = 25 ∨ k = 26 ∨ k = 27 → w.1 k = v.1 k) ∧ ∀ k, k = 3 ∨ k = 11 ∨ k = 16 ∨ k = 28 → w.2.1 k = v.2.1 k
theorem mR.q {v w : gs_Ob} {S : pS} (h : mR v S) (hq : mQ v w) : mR w S := by
  unfold mR
  rw [hq.1 0 (by decide), hq.1 2 (by decide), hq.1 10 (by decide), hq.1 25 (by decide), hq.1 26 (by decide), hq.1 27 (by decide), hq.2 3 (by decide), hq.2 11 (by decide), hq.2 16 (by decide), hq.2 28 (by decide)]
  exact h
theorem mE.q {v w : gs_Ob} (h : mE v w) : mQ v w := ⟨fun k hk => h.1 k (by omega), fun k _ => by rw [h.2.1]⟩
theorem mF.q {v w : gs_Ob} (h : mF v w) : mQ v w := ⟨fun k hk => h.1 k (by omega), fun k _ => by rw [h.2.1]⟩
theorem mR.f {v w : gs_Ob} {S : pS} (h : mR v S) (hE : mF v w) : mR w S := h.q hE.q
theorem mR.e {v w : gs_Ob} {S : pS} (h : mR v S) (hE : mE v w) : mR w S := h.q hE.q
/-- the row st is written below its 57 -/
theorem mR.st {v : gs_Ob} {S : pS} (h : mR v S) {a : Nat → Int32} {i : pI} (h1 : aR a i.1) (h2 : snR a i.2) (h3 : ∀ j, 57 ≤ j → a j = v.1 0 j) (h4 : i.1.2.2 6 = S.1.1.2.2 6) : mR (gs_w v 0 a) (i, S.2) := by
  obtain ⟨k1, k2, k3, k4, k5⟩ := h
  have e0 : (gs_w v 0 a).1 0 = a := by simp [gs_w, va_up]
  have e : ∀ k, k ≠ 0 → (gs_w v 0 a).1 k = v.1 k := fun k hk => by simp [gs_w, va_up, hk]
  refine ⟨⟨by rw [e0]; exact h1, by rw [e0]; exact h2, ?_⟩, fun k hk => ?_, ?_, k4, fun k hk => ?_⟩
  · exact (k1.2.2).trans (congrArg nI h4.symm)
  · have ef : (fun j => (gs_w v 0 a).1 0 (57 * (k + 1) + j)) = fun j => v.1 0 (57 * (k + 1) + j) := funext fun j => by rw [e0, h3 _ (by omega)]
    rw [e 2 (by decide), ef]
    exact k2 k hk
  · rw [e 10 (by decide)]; exact k3
  · rw [e 25 (by decide), e 26 (by decide), e 27 (by decide)]; exact k5 k hk
theorem snR.ext {a b : Nat → Int32} {s : ps} (h : snR a s) (hs : s.2 ≤ 6) (hb : ∀ j, 38 ≤ j → j < 57 → b j = a j) : snR b s := by
  obtain ⟨h1, h2⟩ := h
  exact ⟨(hb _ (by omega) (by omega)).trans h1, fun j hj => ⟨(hb _ (by omega) (by omega)).trans (h2 j hj).1, (hb _ (by omega) (by omega)).trans (h2 j hj).2.1, (hb _ (by omega) (by omega)).trans (h2 j hj).2.2⟩⟩
theorem snR.lo {a : Nat → Int32} {s : ps} (h : snR a s) (hs : s.2 ≤ 6) {i : Nat} {x : Int32} (hi : i < 38) : snR (upd a i x) s := h.ext hs fun j h1 _ => pk_un (by omega)
/-- one number of st, below what was SEEN -/
theorem mR.put {v : gs_Ob} {S : pS} (h : mR v S) (hS : SOk S) {i : Nat} {x : Int32} {p : pw} (hi : i < 38) (h1 : aR (upd (v.1 0) i x) p) (h4 : p.2.2 6 = S.1.1.2.2 6) : mR (gs_w v 0 (upd (v.1 0) i x)) (pS_p S p) := h.st (i := (p, S.1.2)) h1 (h.1.2.1.lo hS.1.2.2.2.1 hi) (fun j hj => pk_un (by omega)) h4
theorem aR.fame {a : Nat → Int32} {p : pw} (h : aR a p) {j : Nat} (x : Nat) (hj : j < 12) : aR (upd a j (nI x)) (pw_a p 0 j x) := by
  obtain ⟨h1, h2, h3, h4, h5, h6, h7⟩ := h
  have key : ∀ q, q ≠ j → upd a j (nI x) q = a q := fun q hq => pk_un hq
  refine ⟨fun q hq => ?_, fun g hg => ?_, fun q hq => ?_, by rw [key _ (by omega)]; exact h4, by rw [key _ (by omega)]; exact h5, by rw [key _ (by omega)]; exact h6, by rw [key _ (by omega)]; exact h7⟩
  · by_cases e : q = j
    · subst e; rw [pk_us]; simp [pw_a]
    · rw [key _ e, h1 q hq]; simp [pw_a, e]
  · obtain ⟨c0, c1, c2, c3⟩ := h2 g hg
    refine ⟨?_, fun hp => ?_, ?_, ?_⟩
    · rw [key _ (by omega), c0]; simp [pw_a]
    · rw [key _ (by omega), c1 hp]; simp [pw_a]
    · rw [key _ (by omega), c2]; simp [pw_a]
    · rw [key _ (by omega)]; exact c3
  · rw [key _ (by omega), h3 q hq]; simp [pw_a]
theorem aR.kind {a : Nat → Int32} {p : pw} (h : aR a p) (hB : aB p) {g : Nat} (x : Nat) (hg : g < p.2.2 6) : aR (upd a (12 + 4 * g + 0) (nI x)) (pw_a p 1 g x) := by
  obtain ⟨h1, h2, h3, h4, h5, h6, h7⟩ := h
  obtain ⟨b1, b2⟩ := hB
  have key : ∀ q, q ≠ 12 + 4 * g + 0 → upd a (12 + 4 * g + 0) (nI x) q = a q := fun q hq => pk_un hq
  refine ⟨fun q hq => ?_, fun g' hg' => ?_, fun q hq => ?_, by rw [key _ (by omega)]; exact h4, by rw [key _ (by omega)]; exact h5, by rw [key _ (by omega)]; exact h6, by rw [key _ (by omega)]; exact h7⟩
  · rw [key _ (by omega), h1 q hq]; simp [pw_a]
  · obtain ⟨c0, c1, c2, c3⟩ := h2 g' hg'
    refine ⟨?_, fun hp => ?_, ?_, ?_⟩
    · by_cases e : g' = g
      · subst e; rw [pk_us]; simp [pw_a]
      · rw [key _ (by omega), c0]; simp [pw_a, e]
    · rw [key _ (by omega), c1 hp]; simp [pw_a]
    · rw [key _ (by omega), c2]; simp [pw_a]
    · rw [key _ (by omega)]; exact c3
  · have hq1 : q < p.2.2 7 := hq
    rw [key _ (by omega), h3 q hq1]; simp [pw_a]
/-- all of alter()'s parts at once -/
theorem aR.part {a : Nat → Int32} {p : pw} (h : aR a p) (hB : aB p) {g k : Nat} (x : Nat) (hg : g < p.2.2 6) (hk : k ≤ 2) : aR (upd a (12 + 4 * g + k) (nI x)) (pw_a p (k + 1) g x) := by
  rcases (show k = 0 ∨ k = 1 ∨ k = 2 by omega) with rfl | rfl | rfl
  · exact h.kind hB x hg
  · exact h.put hB x hg (Or.inl rfl)
  · exact h.put hB x hg (Or.inr rfl)
theorem aR.callsTo {a : Nat → Int32} {p : pw} (h : aR a p) (hB : aB p) (n : Nat) (hn : ∀ j, p.2.2 7 ≤ j → j < n → a (30 + j) = nI (p.1 4 j)) (hn6 : n ≤ 6) : aR (upd a 29 (nI n)) (pw_f p 7 n) := by
  obtain ⟨h1, h2, h3, h4, h5, h6, h7⟩ := h
  obtain ⟨b1, b2⟩ := hB
  have key : ∀ q, q ≠ 29 → upd a 29 (nI n) q = a q := fun q hq => pk_un hq
  refine ⟨fun q hq => ?_, fun g hg => ?_, fun q hq => ?_, by rw [key _ (by omega)]; exact h4, by rw [pk_us]; rfl, by rw [key _ (by omega)]; exact h6, by rw [key _ (by omega)]; exact h7⟩
  · rw [key _ (by omega)]; exact h1 q hq
  · have hg1 : g < p.2.2 6 := hg
    obtain ⟨c0, c1, c2, c3⟩ := h2 g hg1
    exact ⟨by rw [key _ (by omega)]; exact c0, fun hp => by rw [key _ (by omega)]; exact c1 hp, by rw [key _ (by omega)]; exact c2, by rw [key _ (by omega)]; exact c3⟩
  · have hq1 : q < n := hq
    rw [key _ (by omega)]
    rcases Nat.lt_or_ge q (p.2.2 7) with z | z
    · exact h3 q z
    · exact hn q z hq1
theorem aR.route {a : Nat → Int32} {p : pw} (h : aR a p) (hB : aB p) {j : Nat} (x : Nat) (hj : j < 6) : aR (upd a (30 + j) (nI x)) (pw_a p 4 j x) := by
  obtain ⟨h1, h2, h3, h4, h5, h6, h7⟩ := h
  obtain ⟨b1, b2⟩ := hB
  have key : ∀ q, q ≠ 30 + j → upd a (30 + j) (nI x) q = a q := fun q hq => pk_un hq
  refine ⟨fun q hq => ?_, fun g hg => ?_, fun q hq => ?_, by rw [key _ (by omega)]; exact h4, by rw [key _ (by omega)]; exact h5, by rw [key _ (by omega)]; exact h6, by rw [key _ (by omega)]; exact h7⟩
  · rw [key _ (by omega), h1 q hq]; simp [pw_a]
  · have hg1 : g < p.2.2 6 := hg
    obtain ⟨c0, c1, c2, c3⟩ := h2 g hg1
    refine ⟨?_, fun hp => ?_, ?_, ?_⟩
    · rw [key _ (by omega), c0]; simp [pw_a]
    · rw [key _ (by omega), c1 hp]; simp [pw_a]
    · rw [key _ (by omega), c2]; simp [pw_a]
    · rw [key _ (by omega)]; exact c3
  · by_cases e : q = j
    · subst e; rw [pk_us]; simp [pw_a]
    · rw [key _ (by omega), h3 q hq]; simp [pw_a, e]
set_option maxHeartbeats 4000000 in
set_option maxRecDepth 100000 in
theorem c_M_pairedNow {G : gx_G} {σ : gs_S} {Q : Option Value → gx_Hp → Prop} {p : pw} (d : Nat) (hm : mN (σ 7 0) p) (hO : pOk p) (hq : Q (some (.int (nI (pw_bits p.2.1)))) (hp G σ)) : gx_K G yX7_pairedNow mX7_pairedNow (d + 2) 0 0 [.ref (gs_a G 7 0 0)] (hp G σ) Q := by
  have hB := hO.aB
  have h4 : p.2.2 6 ≤ 4 := hB.1
  have e6 := hm.2
  have loop : ∀ n g, p.2.2 6 - g < n → g ≤ p.2.2 6 → gx_J G mX7_pairedNow (d + 2) 0 0 Q 4 [(0, .ref (gs_a G 7 0 0)), (1, .int (nI (pw_bits (fun q => decide (q < g) && p.2.1 q)))), (2, .int (nI g))] [] (hp G σ) := by
    intro n
    induction n with
    | zero => intros; exact absurd (by assumption) (Nat.not_lt_zero _)
    | succ n ih =>
      intro g hn hg
      refine J_iload_n (i := 2) (n := 5) dX7_pairedNow_4 rfl rfl rfl ?_
      refine J_aload_n (i := 0) (n := 6) dX7_pairedNow_5 rfl rfl rfl ?_
      refine T_getO (k := 3) (n := 9) wk_X7 dX7_pairedNow_6 wf_X7_67 (by decide) (by first | assumption | decide) rfl rfl ?_
      rw [e6]
      refine J_icmp_ge (tgt := 31) (n := 12) dX7_pairedNow_9 (by decide) rfl (fun c_9 => ?_) (fun c_9 => ?_)
      · refine J_iload_n (i := 1) (n := 32) dX7_pairedNow_31 rfl rfl rfl ?_
        refine J_iret dX7_pairedNow_32 rfl (kN_i _) ?_
        rw [nI_leI (by omega) (by omega)] at c_9
        have eg : g = p.2.2 6 := by omega
        subst eg
        rw [bits_cut hO.2.2.2.1]
        exact hq
      · rw [nI_leI (by omega) (by omega)] at c_9
        refine J_iload_n (i := 1) (n := 13) dX7_pairedNow_12 rfl rfl rfl ?_
        refine J_aload_n (i := 0) (n := 14) dX7_pairedNow_13 rfl rfl rfl ?_
        refine J_iload_n (i := 2) (n := 15) dX7_pairedNow_14 rfl rfl rfl ?_
        refine J_callVr (n := 18) wS_X7_isPaired (c_M_isPaired d hm hB (by omega) ⟨rfl, rfl⟩) dX7_pairedNow_15 wm_X7_157 ⟨wM_X7_isPaired, wV_X7_isPaired⟩ rfl (T_recv (by decide) (by first | assumption | decide)) rfl rfl (Nat.le_of_ble_eq_true rfl) rfl ?_
        refine J_callSr (n := 21) wS_X7_flag (c_M_flag (d + 1) _ ⟨rfl, rfl⟩) dX7_pairedNow_18 wm_X7_194 wT_X7_flag rfl rfl (Nat.le_of_ble_eq_true rfl) rfl ?_
        refine J_iload_n (i := 2) (n := 22) dX7_pairedNow_21 rfl rfl rfl ?_
        refine J_ishl (n := 23) dX7_pairedNow_22 rfl ?_
        refine J_ior (n := 24) dX7_pairedNow_23 rfl ?_
        rw [bq_s p.2.1 (by omega)]
        refine J_istore_n (i := 1) (n := 25) (lv' := [(0, _), (1, _), (2, _)]) dX7_pairedNow_24 rfl (by decide) rfl rfl ?_
        refine J_inc (i := 2) (n := 28) (lv' := [(0, _), (1, _), (2, _)]) dX7_pairedNow_25 rfl (by decide) rfl rfl ?_
        refine J_goto (tgt := 4) dX7_pairedNow_28 (by decide) ?_
        exact ih (g + 1) (by omega) (by omega)
  refine gx_K.of' (lv := [(0, _)]) (by decide) rfl (by decide) (Nat.le_of_ble_eq_true rfl) rfl ?_
  refine J_iconst (n := 1) dX7_pairedNow_0 kI_0 rfl ?_
  refine J_istore_n (i := 1) (n := 2) (lv' := [(0, _), (1, _)]) dX7_pairedNow_1 rfl (by decide) rfl rfl ?_
  refine J_iconst (n := 3) dX7_pairedNow_2 kI_0 rfl ?_
  refine J_istore_n (i := 2) (n := 4) (lv' := [(0, _), (1, _), (2, _)]) dX7_pairedNow_3 rfl (by decide) rfl rfl ?_
  have h0 := loop (p.2.2 6 + 1) 0 (by omega) (by omega)
  rw [← bl_0] at h0
  exact h0

set_option maxHeartbeats 4000000 in
set_option maxRecDepth 100000 in
theorem c_M_coldNow {G : gx_G} {σ : gs_S} {Q : Option Value → gx_Hp → Prop} {p : pw} (d : Nat) (hm : mN (σ 7 0) p) (hO : pOk p) (hq : Q (some (.int (nI (pw_bits (fun q => decide (q < p.2.2 6) && pw_cold p q))))) (hp G σ)) : gx_K G yX7_coldNow mX7_coldNow (d + 3) 0 0 [.ref (gs_a G 7 0 0)] (hp G σ) Q := by
  have hB := hO.aB
  have h4 : p.2.2 6 ≤ 4 := hB.1
  have e6 := hm.2
  have loop : ∀ n g, p.2.2 6 - g < n → g ≤ p.2.2 6 → gx_J G mX7_coldNow (d + 3) 0 0 Q 4 [(0, .ref (gs_a G 7 0 0)), (1, .int (nI (pw_bits (fun q => decide (q < g) && (pw_cold p) q)))), (2, .int (nI g))] [] (hp G σ) := by
    intro n
    induction n with
    | zero => intros; exact absurd (by assumption) (Nat.not_lt_zero _)
    | succ n ih =>
      intro g hn hg
      refine J_iload_n (i := 2) (n := 5) dX7_coldNow_4 rfl rfl rfl ?_
      refine J_aload_n (i := 0) (n := 6) dX7_coldNow_5 rfl rfl rfl ?_
      refine T_getO (k := 3) (n := 9) wk_X7 dX7_coldNow_6 wf_X7_67 (by decide) (by first | assumption | decide) rfl rfl ?_
      rw [e6]
      refine J_icmp_ge (tgt := 31) (n := 12) dX7_coldNow_9 (by decide) rfl (fun c_9 => ?_) (fun c_9 => ?_)
      · refine J_iload_n (i := 1) (n := 32) dX7_coldNow_31 rfl rfl rfl ?_
        refine J_iret dX7_coldNow_32 rfl (kN_i _) ?_
        rw [nI_leI (by omega) (by omega)] at c_9
        have eg : g = p.2.2 6 := by omega
        subst eg
        exact hq
      · rw [nI_leI (by omega) (by omega)] at c_9
        refine J_iload_n (i := 1) (n := 13) dX7_coldNow_12 rfl rfl rfl ?_
        refine J_aload_n (i := 0) (n := 14) dX7_coldNow_13 rfl rfl rfl ?_
        refine J_iload_n (i := 2) (n := 15) dX7_coldNow_14 rfl rfl rfl ?_
        refine J_callVr (n := 18) wS_X7_isCold (c_M_isCold d hm hO (by omega) ⟨rfl, rfl⟩) dX7_coldNow_15 wm_X7_173 ⟨wM_X7_isCold, wV_X7_isCold⟩ rfl (T_recv (by decide) (by first | assumption | decide)) rfl rfl (Nat.le_of_ble_eq_true rfl) rfl ?_
        refine J_callSr (n := 21) wS_X7_flag (c_M_flag (d + 2) _ ⟨rfl, rfl⟩) dX7_coldNow_18 wm_X7_194 wT_X7_flag rfl rfl (Nat.le_of_ble_eq_true rfl) rfl ?_
        refine J_iload_n (i := 2) (n := 22) dX7_coldNow_21 rfl rfl rfl ?_
        refine J_ishl (n := 23) dX7_coldNow_22 rfl ?_
        refine J_ior (n := 24) dX7_coldNow_23 rfl ?_
        rw [bq_s (pw_cold p) (by omega)]
        refine J_istore_n (i := 1) (n := 25) (lv' := [(0, _), (1, _), (2, _)]) dX7_coldNow_24 rfl (by decide) rfl rfl ?_
        refine J_inc (i := 2) (n := 28) (lv' := [(0, _), (1, _), (2, _)]) dX7_coldNow_25 rfl (by decide) rfl rfl ?_
        refine J_goto (tgt := 4) dX7_coldNow_28 (by decide) ?_
        exact ih (g + 1) (by omega) (by omega)
  refine gx_K.of' (lv := [(0, _)]) (by decide) rfl (by decide) (Nat.le_of_ble_eq_true rfl) rfl ?_
  refine J_iconst (n := 1) dX7_coldNow_0 kI_0 rfl ?_
  refine J_istore_n (i := 1) (n := 2) (lv' := [(0, _), (1, _)]) dX7_coldNow_1 rfl (by decide) rfl rfl ?_
  refine J_iconst (n := 3) dX7_coldNow_2 kI_0 rfl ?_
  refine J_istore_n (i := 2) (n := 4) (lv' := [(0, _), (1, _), (2, _)]) dX7_coldNow_3 rfl (by decide) rfl rfl ?_
  have h0 := loop (p.2.2 6 + 1) 0 (by omega) (by omega)
  rw [← bl_0] at h0
  exact h0

set_option maxHeartbeats 4000000 in
set_option maxRecDepth 100000 in
theorem c_M_metMany {G : gx_G} {σ : gs_S} {Q : Option Value → gx_Hp → Prop} {p : pw} (d : Nat) (hm : mN (σ 7 0) p) (hO : pOk p) (hq : Q (some (.int (nI (pw_count p.2.1)))) (hp G σ)) : gx_K G yX7_metMany mX7_metMany (d + 2) 0 0 [.ref (gs_a G 7 0 0)] (hp G σ) Q := by
  have hB := hO.aB
  have h4 : p.2.2 6 ≤ 4 := hB.1
  have e6 := hm.2
  have loop : ∀ n g, p.2.2 6 - g < n → g ≤ p.2.2 6 → gx_J G mX7_metMany (d + 2) 0 0 Q 4 [(0, .ref (gs_a G 7 0 0)), (1, .int (nI (cu p.2.1 g))), (2, .int (nI g))] [] (hp G σ) := by
    intro n
    induction n with
    | zero => intros; exact absurd (by assumption) (Nat.not_lt_zero _)
    | succ n ih =>
      intro g hn hg
      refine J_iload_n (i := 2) (n := 5) dX7_metMany_4 rfl rfl rfl ?_
      refine J_aload_n (i := 0) (n := 6) dX7_metMany_5 rfl rfl rfl ?_
      refine T_getO (k := 3) (n := 9) wk_X7 dX7_metMany_6 wf_X7_67 (by decide) (by first | assumption | decide) rfl rfl ?_
      rw [e6]
      refine J_icmp_ge (tgt := 29) (n := 12) dX7_metMany_9 (by decide) rfl (fun c_9 => ?_) (fun c_9 => ?_)
      · refine J_iload_n (i := 1) (n := 30) dX7_metMany_29 rfl rfl rfl ?_
        refine J_iret dX7_metMany_30 rfl (kN_i _) ?_
        rw [nI_leI (by omega) (by omega)] at c_9
        have eg : g = p.2.2 6 := by omega
        subst eg
        rw [cu_count h4 hO.2.2.2.1]
        exact hq
      · rw [nI_leI (by omega) (by omega)] at c_9
        refine J_iload_n (i := 1) (n := 13) dX7_metMany_12 rfl rfl rfl ?_
        refine J_aload_n (i := 0) (n := 14) dX7_metMany_13 rfl rfl rfl ?_
        refine J_iload_n (i := 2) (n := 15) dX7_metMany_14 rfl rfl rfl ?_
        refine J_callVr (n := 18) wS_X7_isPaired (c_M_isPaired d hm hB (by omega) ⟨rfl, rfl⟩) dX7_metMany_15 wm_X7_157 ⟨wM_X7_isPaired, wV_X7_isPaired⟩ rfl (T_recv (by decide) (by first | assumption | decide)) rfl rfl (Nat.le_of_ble_eq_true rfl) rfl ?_
        refine J_callSr (n := 21) wS_X7_flag (c_M_flag (d + 1) _ ⟨rfl, rfl⟩) dX7_metMany_18 wm_X7_194 wT_X7_flag rfl rfl (Nat.le_of_ble_eq_true rfl) rfl ?_
        refine J_iadd (n := 22) dX7_metMany_21 rfl ?_
        rw [nI_add]
        refine J_istore_n (i := 1) (n := 23) (lv' := [(0, _), (1, _), (2, _)]) dX7_metMany_22 rfl (by decide) rfl rfl ?_
        refine J_inc (i := 2) (n := 26) (lv' := [(0, _), (1, _), (2, _)]) dX7_metMany_23 rfl (by decide) rfl rfl ?_
        refine J_goto (tgt := 4) dX7_metMany_26 (by decide) ?_
        exact ih (g + 1) (by omega) (by omega)
  refine gx_K.of' (lv := [(0, _)]) (by decide) rfl (by decide) (Nat.le_of_ble_eq_true rfl) rfl ?_
  refine J_iconst (n := 1) dX7_metMany_0 kI_0 rfl ?_
  refine J_istore_n (i := 1) (n := 2) (lv' := [(0, _), (1, _)]) dX7_metMany_1 rfl (by decide) rfl rfl ?_
  refine J_iconst (n := 3) dX7_metMany_2 kI_0 rfl ?_
  refine J_istore_n (i := 2) (n := 4) (lv' := [(0, _), (1, _), (2, _)]) dX7_metMany_3 rfl (by decide) rfl rfl ?_
  exact loop (p.2.2 6 + 1) 0 (by omega) (by omega)

set_option maxHeartbeats 4000000 in
set_option maxRecDepth 100000 in
theorem c_M_nameMore {G : gx_G} {σ : gs_S} {Q : Option Value → gx_Hp → Prop} {p : pw} (d : Nat) {n0 : Nat} (hm : mN (σ 7 0) p) (h0 : (σ 7 0).1 0 36 = nI n0) (hq : Q (some (.int (nI (p.2.2 9) - nI n0))) (hp G σ)) : gx_K G yX7_nameMore mX7_nameMore d 0 0 [.ref (gs_a G 7 0 0)] (hp G σ) Q := by
  refine gx_K.of' (lv := [(0, _)]) (by decide) rfl (by decide) (Nat.le_of_ble_eq_true rfl) rfl ?_
  refine J_aload_n (i := 0) (n := 1) dX7_nameMore_0 rfl rfl rfl ?_
  refine T_getO (k := 1) (n := 4) wk_X7 dX7_nameMore_1 wf_X7_13 (by decide) (by first | assumption | decide) rfl rfl ?_
  refine J_bipush (n := 6) dX7_nameMore_4 kB_36 rfl ?_
  refine T_ialdO (c := 7) (k := 1) (N := 57) (n := 7) dX7_nameMore_6 (by decide) (by first | assumption | decide) rfl (vp_in_nI (by decide) (by decide)) rfl ?_
  refine J_aload_n (i := 0) (n := 8) dX7_nameMore_7 rfl rfl rfl ?_
  refine T_getO (k := 0) (n := 11) wk_X7 dX7_nameMore_8 wf_X7_7 (by decide) (by first | assumption | decide) rfl rfl ?_
  refine J_bipush (n := 13) dX7_nameMore_11 kB_36 rfl ?_
  refine T_ialdO (c := 7) (k := 0) (N := 171) (n := 14) dX7_nameMore_13 (by decide) (by first | assumption | decide) rfl (vp_in_nI (by decide) (by decide)) rfl ?_
  refine J_isub (n := 15) dX7_nameMore_14 rfl ?_
  refine J_iret dX7_nameMore_15 rfl (kN_i _) ?_
  rw [nI_clamp (by decide), hm.1.2.2.2.2.2.1, h0]
  exact hq

set_option maxHeartbeats 4000000 in
set_option maxRecDepth 100000 in
theorem c_M_nameBehind {G : gx_G} {σ : gs_S} {Q : Option Value → gx_Hp → Prop} {p : pw} {v : gs_Ob} (d : Nat) {n n0 : Nat} (hm : mN v p) (hO : pOk p) (hn : p.2.2 10 + n < 2 ^ 30) (h0 : v.1 0 36 = nI n0) (hq : ∀ v1, mN v1 (pw_days p n) → mE v v1 → Q (some (.int (nI ((pw_days p n).2.2 9) - nI n0))) (hp G (gs_set σ 7 0 v1))) : gx_K G yX7_nameBehind mX7_nameBehind (d + 7) 0 0 [.ref (gs_a G 7 0 0), .int (nI n)] (hp G (gs_set σ 7 0 v)) Q := by
  refine gx_K.of' (lv := [(0, _), (1, _)]) (by decide) rfl (by decide) (Nat.le_of_ble_eq_true rfl) rfl ?_
  refine J_aload_n (i := 0) (n := 1) dX7_nameBehind_0 rfl rfl rfl ?_
  refine J_iload_n (i := 1) (n := 2) dX7_nameBehind_1 rfl rfl rfl ?_
  refine J_callVx (n := 5) wS_X7_daysGo (c_M_daysGo (Q := fun r h => r = none ∧ ∃ v1, mN v1 (pw_days p n) ∧ mE v v1 ∧ h = hp G (gs_set σ 7 0 v1)) d hm hO hn (fun v1 h1 h2 => ⟨rfl, v1, h1, h2, rfl⟩)) dX7_nameBehind_2 wm_X7_188 ⟨wM_X7_daysGo, wV_X7_daysGo⟩ rfl (T_recv (by decide) (by first | assumption | decide)) rfl rfl (Nat.le_of_ble_eq_true rfl) rfl (fun r h1 hq1 => ?_)
  obtain ⟨rfl, v1, hN1, hE1, rfl⟩ := hq1
  have hN0 : mN (gs_set σ 7 0 v1 7 0) (pw_days p n) := by rw [gs_same]; exact hN1
  refine J_aload_n (i := 0) (n := 6) dX7_nameBehind_5 rfl rfl rfl ?_
  refine J_callVr (n := 9) wS_X7_nameMore (c_M_nameMore (d + 6) hN0 (show (gs_set σ 7 0 v1 7 0).1 0 36 = nI n0 by rw [gs_same, hE1.1 0 (by decide)]; exact h0) ⟨rfl, rfl⟩) dX7_nameBehind_6 wm_X7_191 ⟨wM_X7_nameMore, wV_X7_nameMore⟩ rfl (T_recv (by decide) (by first | assumption | decide)) rfl rfl (Nat.le_of_ble_eq_true rfl) rfl ?_
  refine J_iret dX7_nameBehind_9 rfl (kN_i _) ?_
  exact hq v1 hN1 hE1

set_option maxHeartbeats 4000000 in
set_option maxRecDepth 100000 in
theorem c_M_metBehind {G : gx_G} {σ : gs_S} {Q : Option Value → gx_Hp → Prop} {p : pw} {v : gs_Ob} (d : Nat) {n : Nat} (hm : mN v p) (hO : pOk p) (hn : p.2.2 10 + n < 2 ^ 30) (hq : ∀ v1, mN v1 (pw_days p n) → mE v v1 → Q (some (.int (nI (pw_count (pw_days p n).2.1)))) (hp G (gs_set σ 7 0 v1))) : gx_K G yX7_metBehind mX7_metBehind (d + 7) 0 0 [.ref (gs_a G 7 0 0), .int (nI n)] (hp G (gs_set σ 7 0 v)) Q := by
  refine gx_K.of' (lv := [(0, _), (1, _)]) (by decide) rfl (by decide) (Nat.le_of_ble_eq_true rfl) rfl ?_
  refine J_aload_n (i := 0) (n := 1) dX7_metBehind_0 rfl rfl rfl ?_
  refine J_iload_n (i := 1) (n := 2) dX7_metBehind_1 rfl rfl rfl ?_
  refine J_callVx (n := 5) wS_X7_daysGo (c_M_daysGo (Q := fun r h => r = none ∧ ∃ v1, mN v1 (pw_days p n) ∧ mE v v1 ∧ h = hp G (gs_set σ 7 0 v1)) d hm hO hn (fun v1 h1 h2 => ⟨rfl, v1, h1, h2, rfl⟩)) dX7_metBehind_2 wm_X7_188 ⟨wM_X7_daysGo, wV_X7_daysGo⟩ rfl (T_recv (by decide) (by first | assumption | decide)) rfl rfl (Nat.le_of_ble_eq_true rfl) rfl (fun r h1 hq1 => ?_)
  obtain ⟨rfl, v1, hN1, hE1, rfl⟩ := hq1
  have hN0 : mN (gs_set σ 7 0 v1 7 0) (pw_days p n) := by rw [gs_same]; exact hN1
  refine J_aload_n (i := 0) (n := 6) dX7_metBehind_5 rfl rfl rfl ?_
  refine J_callVr (n := 9) wS_X7_metMany (c_M_metMany (d + 4) hN0 (pw_days_ok hO n) ⟨rfl, rfl⟩) dX7_metBehind_6 wm_X7_198 ⟨wM_X7_metMany, wV_X7_metMany⟩ rfl (T_recv (by decide) (by first | assumption | decide)) rfl rfl (Nat.le_of_ble_eq_true rfl) rfl ?_
  refine J_iret dX7_metBehind_9 rfl (kN_i _) ?_
  exact hq v1 hN1 hE1

set_option maxHeartbeats 4000000 in
set_option maxRecDepth 100000 in
theorem c_M_isGlove {G : gx_G} {σ : gs_S} {Q : Option Value → gx_Hp → Prop} (d : Nat) (v : Int32) (n : Nat) (hg : (σ 7 0).2.1 3 = nI n) (hn : n < 2 ^ 31) (hq : Q (some (.int (nI (!decide (n = 0) && ix_in v (n - 1)).toNat))) (hp G σ)) : gx_K G yX7_isGlove mX7_isGlove (d + 1) 0 0 [.ref (gs_a G 7 0 0), .int v] (hp G σ) Q := by
  refine gx_K.of' (lv := [(0, _), (1, _)]) (by decide) rfl (by decide) (Nat.le_of_ble_eq_true rfl) rfl ?_
  refine J_iload_n (i := 1) (n := 1) dX7_isGlove_0 rfl rfl rfl ?_
  refine J_i2l (n := 2) dX7_isGlove_1 rfl ?_
  refine J_lconst (n := 3) dX7_isGlove_2 kL_0 rfl ?_
  refine J_aload_n (i := 0) (n := 4) dX7_isGlove_3 rfl rfl rfl ?_
  refine T_getO (k := 3) (n := 7) wk_X7 dX7_isGlove_4 wf_X7_67 (by decide) (by first | assumption | decide) rfl rfl ?_
  rw [hg]
  refine J_iconst (n := 8) dX7_isGlove_7 kI_1 rfl ?_
  refine J_isub (n := 9) dX7_isGlove_8 rfl ?_
  refine J_i2l (n := 10) dX7_isGlove_9 rfl ?_
  refine J_callSr (n := 13) wS_X7_in (c_M_in1 d v n hn ⟨rfl, rfl⟩) dX7_isGlove_10 wm_X7_72 wT_X7_in rfl rfl (Nat.le_of_ble_eq_true rfl) rfl ?_
  refine J_iret dX7_isGlove_13 rfl (kN_b _) ?_
  exact hq

set_option maxHeartbeats 4000000 in
set_option maxRecDepth 100000 in
theorem c_M_isCall {G : gx_G} {σ : gs_S} {Q : Option Value → gx_Hp → Prop} (d : Nat) (v : Int32) (n : Nat) (hg : (σ 7 0).1 0 29 = nI n) (hn : n < 2 ^ 31) (hq : Q (some (.int (nI (!decide (n = 0) && ix_in v (n - 1)).toNat))) (hp G σ)) : gx_K G yX7_isCall mX7_isCall (d + 1) 0 0 [.ref (gs_a G 7 0 0), .int v] (hp G σ) Q := by
  refine gx_K.of' (lv := [(0, _), (1, _)]) (by decide) rfl (by decide) (Nat.le_of_ble_eq_true rfl) rfl ?_
  refine J_iload_n (i := 1) (n := 1) dX7_isCall_0 rfl rfl rfl ?_
  refine J_i2l (n := 2) dX7_isCall_1 rfl ?_
  refine J_lconst (n := 3) dX7_isCall_2 kL_0 rfl ?_
  refine J_aload_n (i := 0) (n := 4) dX7_isCall_3 rfl rfl rfl ?_
  refine T_getO (k := 0) (n := 7) wk_X7 dX7_isCall_4 wf_X7_7 (by decide) (by first | assumption | decide) rfl rfl ?_
  refine J_bipush (n := 9) dX7_isCall_7 kB_29 rfl ?_
  refine T_ialdO (c := 7) (k := 0) (N := 171) (n := 10) dX7_isCall_9 (by decide) (by first | assumption | decide) rfl (vp_in_nI (by decide) (by decide)) rfl ?_
  rw [nI_clamp (by decide), hg]
  refine J_iconst (n := 11) dX7_isCall_10 kI_1 rfl ?_
  refine J_isub (n := 12) dX7_isCall_11 rfl ?_
  refine J_i2l (n := 13) dX7_isCall_12 rfl ?_
  refine J_callSr (n := 16) wS_X7_in (c_M_in1 d v n hn ⟨rfl, rfl⟩) dX7_isCall_13 wm_X7_72 wT_X7_in rfl rfl (Nat.le_of_ble_eq_true rfl) rfl ?_
  refine J_iret dX7_isCall_16 rfl (kN_b _) ?_
  exact hq

set_option maxHeartbeats 4000000 in
set_option maxRecDepth 100000 in
theorem c_M_isDoor {G : gx_G} {h : gx_Hp} {Q : Option Value → gx_Hp → Prop} (d : Nat) (v : Int32) (hq : Q (some (.int (nI (ix_in v 11).toNat))) h) : gx_K G yX7_isDoor mX7_isDoor (d + 1) 0 0 [.int v] h Q := by
  refine gx_K.of' (lv := [(0, _)]) (by decide) rfl (by decide) (Nat.le_of_ble_eq_true rfl) rfl ?_
  refine J_iload_n (i := 0) (n := 1) dX7_isDoor_0 rfl rfl rfl ?_
  refine J_i2l (n := 2) dX7_isDoor_1 rfl ?_
  refine J_lconst (n := 3) dX7_isDoor_2 kL_0 rfl ?_
  refine J_ldc2 (n := 6) dX7_isDoor_3 wd_X7_152 rfl ?_
  refine J_callSr (n := 9) wS_X7_in (c_M_in d v 11 (by decide) ⟨rfl, rfl⟩) dX7_isDoor_6 wm_X7_72 wT_X7_in rfl rfl (Nat.le_of_ble_eq_true rfl) rfl ?_
  refine J_iret dX7_isDoor_9 rfl (kN_b _) ?_
  exact hq

set_option maxHeartbeats 4000000 in
set_option maxRecDepth 100000 in
theorem c_M_isPart {G : gx_G} {h : gx_Hp} {Q : Option Value → gx_Hp → Prop} (d : Nat) (v : Int32) (hq : Q (some (.int (nI (ix_in v 1).toNat))) h) : gx_K G yX7_isPart mX7_isPart (d + 1) 0 0 [.int v] h Q := by
  refine gx_K.of' (lv := [(0, _)]) (by decide) rfl (by decide) (Nat.le_of_ble_eq_true rfl) rfl ?_
  refine J_iload_n (i := 0) (n := 1) dX7_isPart_0 rfl rfl rfl ?_
  refine J_i2l (n := 2) dX7_isPart_1 rfl ?_
  refine J_lconst (n := 3) dX7_isPart_2 kL_0 rfl ?_
  refine J_lconst (n := 4) dX7_isPart_3 kL_1 rfl ?_
  refine J_callSr (n := 7) wS_X7_in (c_M_in d v 1 (by decide) ⟨rfl, rfl⟩) dX7_isPart_4 wm_X7_72 wT_X7_in rfl rfl (Nat.le_of_ble_eq_true rfl) rfl ?_
  refine J_iret dX7_isPart_7 rfl (kN_b _) ?_
  exact hq

set_option maxHeartbeats 4000000 in
set_option maxRecDepth 100000 in
theorem c_M_isFar {G : gx_G} {h : gx_Hp} {Q : Option Value → gx_Hp → Prop} (d : Nat) (v : Int32) (hq : Q (some (.int (nI (ix_in v 60).toNat))) h) : gx_K G yX7_isFar mX7_isFar (d + 1) 0 0 [.int v] h Q := by
  refine gx_K.of' (lv := [(0, _)]) (by decide) rfl (by decide) (Nat.le_of_ble_eq_true rfl) rfl ?_
  refine J_iload_n (i := 0) (n := 1) dX7_isFar_0 rfl rfl rfl ?_
  refine J_i2l (n := 2) dX7_isFar_1 rfl ?_
  refine J_lconst (n := 3) dX7_isFar_2 kL_0 rfl ?_
  refine J_ldc2 (n := 6) dX7_isFar_3 wd_X7_242 rfl ?_
  refine J_callSr (n := 9) wS_X7_in (c_M_in d v 60 (by decide) ⟨rfl, rfl⟩) dX7_isFar_6 wm_X7_72 wT_X7_in rfl rfl (Nat.le_of_ble_eq_true rfl) rfl ?_
  refine J_iret dX7_isFar_9 rfl (kN_b _) ?_
  exact hq

set_option maxHeartbeats 4000000 in
set_option maxRecDepth 100000 in
theorem c_M_becomes {G : gx_G} {σ : gs_S} {Q : Option Value → gx_Hp → Prop} {v : gs_Ob} (d : Nat) {k : Nat} (x : Int32) (hk : k < 171) (hq : Q (some (.int (v.1 0 k))) (hp G (gs_set σ 7 0 (gs_w v 0 (upd (v.1 0) k x))))) : gx_K G yX7_becomes mX7_becomes d 0 0 [.ref (gs_a G 7 0 0), .int (nI k), .int x] (hp G (gs_set σ 7 0 v)) Q := by
  refine gx_K.of' (lv := [(0, _), (1, _), (2, _)]) (by decide) rfl (by decide) (Nat.le_of_ble_eq_true rfl) rfl ?_
  refine J_aload_n (i := 0) (n := 1) dX7_becomes_0 rfl rfl rfl ?_
  refine T_get (k := 0) (n := 4) wk_X7 dX7_becomes_1 wf_X7_7 (by decide) (by first | assumption | decide) rfl rfl ?_
  refine J_iload_n (i := 1) (n := 5) dX7_becomes_4 rfl rfl rfl ?_
  refine T_iald (c := 7) (k := 0) (N := 171) (n := 6) dX7_becomes_5 (by decide) (by first | assumption | decide) rfl (vp_in_nI (by omega) (by decide)) rfl ?_
  rw [nI_clamp (by omega)]
  refine J_istore_n (i := 3) (n := 7) (lv' := [(0, _), (1, _), (2, _), (3, _)]) dX7_becomes_6 rfl (by decide) rfl rfl ?_
  refine J_aload_n (i := 0) (n := 8) dX7_becomes_7 rfl rfl rfl ?_
  refine T_get (k := 0) (n := 11) wk_X7 dX7_becomes_8 wf_X7_7 (by decide) (by first | assumption | decide) rfl rfl ?_
  refine J_iload_n (i := 1) (n := 12) dX7_becomes_11 rfl rfl rfl ?_
  refine J_iload_n (i := 2) (n := 13) dX7_becomes_12 rfl rfl rfl ?_
  refine T_iast (c := 7) (k := 0) (N := 171) (n := 14) dX7_becomes_13 (by decide) (by first | assumption | decide) (fun _ => rfl) (vp_in_nI (by omega) (by decide)) rfl ?_
  rw [nI_clamp (by omega)]
  refine J_iload_n (i := 3) (n := 15) dX7_becomes_14 rfl rfl rfl ?_
  refine J_iret dX7_becomes_15 rfl (kN_i _) ?_
  exact hq

set_option maxHeartbeats 4000000 in
set_option maxRecDepth 100000 in
theorem c_M_wasPaired {G : gx_G} {σ : gs_S} {Q : Option Value → gx_Hp → Prop} {p : pw} (d : Nat) {j : Nat} (ha : aR ((σ 7 0).1 0) p) (hB : aB p) (hj : j < p.2.2 6) (hq : Q (some (.int (nI (p.2.1 j).toNat))) (hp G σ)) : gx_K G yX7_wasPaired mX7_wasPaired d 0 0 [.ref (gs_a G 7 0 0), .int (nI j)] (hp G σ) Q := by
  have h4 : p.2.2 6 ≤ 4 := hB.1
  have e3 := (ha.2.1 j hj).2.2.2
  refine gx_K.of' (lv := [(0, _), (1, _)]) (by decide) rfl (by decide) (Nat.le_of_ble_eq_true rfl) rfl ?_
  refine J_aload_n (i := 0) (n := 1) dX7_wasPaired_0 rfl rfl rfl ?_
  refine T_getO (k := 0) (n := 4) wk_X7 dX7_wasPaired_1 wf_X7_7 (by decide) (by first | assumption | decide) rfl rfl ?_
  refine J_bipush (n := 6) dX7_wasPaired_4 kB_12 rfl ?_
  refine J_iconst (n := 7) dX7_wasPaired_6 kI_4 rfl ?_
  refine J_iload_n (i := 1) (n := 8) dX7_wasPaired_7 rfl rfl rfl ?_
  refine J_imul (n := 9) dX7_wasPaired_8 rfl ?_
  refine J_iadd (n := 10) dX7_wasPaired_9 rfl ?_
  refine J_iconst (n := 11) dX7_wasPaired_10 kI_3 rfl ?_
  refine J_iadd (n := 12) dX7_wasPaired_11 rfl ?_
  rw [pk_mul, nI_add, nI_add]
  refine T_ialdO (c := 7) (k := 0) (N := 171) (n := 13) dX7_wasPaired_12 (by decide) (by first | assumption | decide) rfl (vp_in_nI (by omega) (by decide)) rfl ?_
  rw [nI_clamp (by omega), e3]
  refine J_iconst (n := 14) dX7_wasPaired_13 kI_1 rfl ?_
  refine J_icmp_ne (tgt := 21) (n := 17) dX7_wasPaired_14 (by decide) rfl (fun c_14 => ?_) (fun c_14 => ?_)
  · refine J_iconst (n := 22) dX7_wasPaired_21 kI_0 rfl ?_
    refine J_iret dX7_wasPaired_22 rfl (by first | exact kN_0 | exact kN_1) ?_
    cases e : p.2.1 j with
    | true => rw [e] at c_14 hq; first | exact hq | exact absurd rfl c_14
    | false => rw [e] at c_14 hq; first | exact hq | exact absurd c_14 (by decide +kernel)
  · refine J_iconst (n := 18) dX7_wasPaired_17 kI_1 rfl ?_
    refine J_goto (tgt := 22) dX7_wasPaired_18 (by decide) ?_
    refine J_iret dX7_wasPaired_22 rfl (by first | exact kN_0 | exact kN_1) ?_
    cases e : p.2.1 j with
    | true => rw [e] at c_14 hq; first | exact hq | exact absurd rfl c_14
    | false => rw [e] at c_14 hq; first | exact hq | exact absurd c_14 (by decide +kernel)

