/-! ===== what was seen, images, sheets, counts, days by a seed ===== -/
def ps_add (s : ps) (n g e : Nat) : ps := (fun k j => if j = s.2 then (if k = 0 then n else if k = 1 then g else e) else s.1 k j, s.2 + 1)
def pS_k (S : pS) (k : Nat) : pS := (S.1, (fun q => if q = k then true else S.2.1 q), (fun q => if q = k then S.1 else S.2.2.1 q), S.2.2.2)
def lb (l : Nat) (v : Int32) : Int32 := if l = 0 then v.toInt8.toInt32 else if l = 1 then v.toInt16.toInt32 else v
def fa (x : (Nat → Int32) × Nat × Nat) (v : Int32) : Nat := if x.2.1 = 9 then 1 else if (!decide (x.2.2 = 0) && ix_in v (x.2.2 - 1)) = true then 0 else 2
def su (f : Nat → Nat) : Nat → Nat
  | 0 => 0
  | n + 1 => su f n + f n
def sd (x : Int32) : Int32 := x * 1103515245 + 12345
def dd (x : Int32) : Nat := ((x.toUInt32 >>> 16).toNat % 32768) % 12
def drf (p : pw) (x : Int32) : Nat → pw
  | 0 => p
  | n + 1 => drf (pw_day p (dd (sd x))) (sd x) n
def sp_see (S : pS) (n g e : Int32) : Int32 × pS := if (ix_in n 20 && (isG S g && ix_in e 11)) = true then (if 6 ≤ S.1.2.2 then (-3, S) else (nI (S.1.2.2 + 1), pS_s S (ps_add S.1.2 (nat n) (nat g) (nat e)))) else (-1, S)
def sp_forget (S : pS) (n : Int32) : Int32 × pS := if ix_in n S.1.2.2 = true then (nI S.1.2.2, pS_s S (S.1.2.1, nat n)) else (-1, S)
def sp_keep (S : pS) (k : Int32) : Int32 × pS := if ix_in k 1 = true then (nI (S.2.1 (nat k)).toNat, pS_k S (nat k)) else (-1, S)
def sp_back (S : pS) (k : Int32) : Int32 × pS := if ix_in k 1 = true then (if S.2.1 (nat k) = true then (nI ((S.2.2.1 (nat k)).1.2.2 10), (S.2.2.1 (nat k), S.2)) else (-2, S)) else (-1, S)
def sp_sheet (S : pS) (k l n : Int32) : Int32 × pS := if (ix_in k 3 && (ix_in l 2 && decide (n ≤ nI 40))) = true then (if 0 ≤ n then (nI 1, pS_h S (nat k) (fun _ => nI 0, nat l, nat n)) else (-14, S)) else (-1, S)
def sp_lay (S : pS) (k i v : Int32) : Int32 × pS := if ix_in k 3 = true then (if fa (S.2.2.2.2.2 (nat k)) i = 0 then (nI 1, pS_h S (nat k) (upd (S.2.2.2.2.2 (nat k)).1 (nat i) (lb (S.2.2.2.2.2 (nat k)).2.1 v), (S.2.2.2.2.2 (nat k)).2)) else (-10 - nI (fa (S.2.2.2.2.2 (nat k)) i), S)) else (-1, S)
def sp_count (S : pS) (w : Int32) : Int32 := if w = 0 then nI S.1.2.2 else if w = 1 then nI (cu S.2.1 2) else if w = 2 then nI S.2.2.2.1.2 else if w = 3 then (if (S.2.2.2.2.2 0).2.1 = 9 then -4 else nI (S.2.2.2.2.2 0).2.2) else if w = 4 then nI (su (S.1.1.1 3) (S.1.1.2.2 6)) else if w = 5 then nI (su (S.1.1.1 0) 12) else -1
def sp_drift (S : pS) (x n w : Int32) : Int32 := if (decide (¬ n < nI 1) && (decide (¬ nI 60 < n) && ix_in w 1)) = true then (if w = 0 then nI ((drf S.1.1 x (nat n)).2.2 9) - nI (S.1.1.2.2 9) else nI (pw_count (drf S.1.1 x (nat n)).2.1)) else -1
theorem gs_w_n (w : gs_Ob) (k : Nat) (f : Nat → Int32) (q : Nat) : (gs_w w k f).2.1 q = w.2.1 q := rfl
theorem cR.keep {σ : gs_S} {S : pS} (h : cR σ S) {k : Nat} (hk : k < 2) {w0 w1 s1 : gs_Ob} (h0 : w0.2.1 2 = nI 1) (hw : wR w1 S.1.1) (hs : sR s1 S.1.2) : cR (gs_set (gs_set (gs_set σ 0 k w0) 5 (11 + k) w1) 2 (1 + k) s1) (pS_k S k) := by
  obtain ⟨h1, h2, h3, h4, h5⟩ := h
  have e : ∀ c i, ¬ (c = 0 ∧ i = k) → ¬ (c = 5 ∧ i = 11 + k) → ¬ (c = 2 ∧ i = 1 + k) → gs_set (gs_set (gs_set σ 0 k w0) 5 (11 + k) w1) 2 (1 + k) s1 c i = σ c i := fun c i q1 q2 q3 => by rw [gs_ne q3, gs_ne q2, gs_ne q1]
  refine ⟨h1.same (e 5 0 (by omega) (by omega) (by omega)) (e 2 0 (by omega) (by omega) (by omega)), fun j hj => ?_, ?_, ?_, fun j hj => ?_⟩
  · show (gs_set (gs_set (gs_set σ 0 k w0) 5 (11 + k) w1) 2 (1 + k) s1 0 j).2.1 2 = nI (if j = k then true else S.2.1 j).toNat ∧ ((if j = k then true else S.2.1 j) = true → cI (gs_set (gs_set (gs_set σ 0 k w0) 5 (11 + k) w1) 2 (1 + k) s1) (11 + j) (1 + j) (if j = k then S.1 else S.2.2.1 j))
    by_cases ej : j = k
    · subst ej
      rw [if_pos rfl, if_pos rfl]
      refine ⟨?_, fun _ => ⟨?_, ?_⟩⟩
      · rw [gs_neC (by decide), gs_neC (by decide), gs_same]; exact h0
      · rw [gs_neC (by decide), gs_same]; exact hw
      · rw [gs_same]; exact hs
    · rw [if_neg ej, if_neg ej, e 0 j (by omega) (by omega) (by omega)]
      exact ⟨(h2 j hj).1, fun q => ((h2 j hj).2 q).same (e 5 (11 + j) (by omega) (by omega) (by omega)) (e 2 (1 + j) (by omega) (by omega) (by omega))⟩
  · rw [e 3 0 (by omega) (by omega) (by omega)]; exact h3
  · rw [e 6 0 (by omega) (by omega) (by omega)]; exact h4
  · rw [e 1 j (by omega) (by omega) (by omega)]; exact h5 j hj
theorem cR.sheet {σ : gs_S} {S : pS} (h : cR σ S) {k : Nat} {w : gs_Ob} {x : (Nat → Int32) × Nat × Nat} (hw : (∀ q, q < 40 → w.1 0 q = x.1 q) ∧ w.2.1 1 = (if x.2.1 = 9 then -1 else nI x.2.1) ∧ w.2.1 2 = nI x.2.2) : cR (gs_set σ 1 k w) (pS_h S k x) := by
  obtain ⟨h1, h2, h3, h4, h5⟩ := h
  have e : ∀ c i, c ≠ 1 → gs_set σ 1 k w c i = σ c i := fun c i hc => gs_neC hc
  refine ⟨h1.same (e 5 0 (by decide)) (e 2 0 (by decide)), fun j hj => ?_, ?_, ?_, fun j hj => ?_⟩
  · rw [e 0 j (by decide)]
    exact ⟨(h2 j hj).1, fun q => ((h2 j hj).2 q).same (e 5 (11 + j) (by decide)) (e 2 (1 + j) (by decide))⟩
  · rw [e 3 0 (by decide)]; exact h3
  · rw [e 6 0 (by decide)]; exact h4
  · show (∀ q, q < 40 → (gs_set σ 1 k w 1 j).1 0 q = (if j = k then x else S.2.2.2.2.2 j).1 q) ∧ (gs_set σ 1 k w 1 j).2.1 1 = (if (if j = k then x else S.2.2.2.2.2 j).2.1 = 9 then -1 else nI (if j = k then x else S.2.2.2.2.2 j).2.1) ∧ (gs_set σ 1 k w 1 j).2.1 2 = nI (if j = k then x else S.2.2.2.2.2 j).2.2
    by_cases ej : j = k
    · subst ej
      rw [gs_same, if_pos rfl]; exact hw
    · rw [gs_neI ej, if_neg ej]; exact h5 j hj
theorem su_lt {f : Nat → Nat} {b n : Nat} (h : ∀ j, j < n → f j ≤ b) : su f n ≤ b * n := by
  induction n with
  | zero => exact Nat.zero_le _
  | succ n ih =>
    have h1 := ih (fun j hj => h j (by omega))
    have h2 := h n (by omega)
    show su f n + f n ≤ b * (n + 1)
    rw [Nat.mul_succ]; omega
theorem dd_lt (x : Int32) : dd x ≤ 11 := by unfold dd; omega
theorem drf_day (p : pw) (x : Int32) (n : Nat) : (drf p x n).2.2 10 = p.2.2 10 + n := by
  induction n generalizing p x with
  | zero => rfl
  | succ n ih =>
    show (drf (pw_day p (dd (sd x))) (sd x) n).2.2 10 = _
    rw [ih, pw_day_day]; omega
theorem sd_and (x : Int32) : ∃ m, m < 32768 ∧ (x.toUInt32 >>> 16).toNat % 32768 = m ∧ (x.toUInt32 >>> (Int32.toUInt32 (nI 16) &&& Int32.toUInt32 31)).toInt32 &&& nI 32767 = nI m ∧ x >>> (nI 16 &&& 31) &&& nI 32767 = nI m := by
  refine ⟨(x.toUInt32 >>> 16).toNat % 32768, by omega, rfl, ?_, ?_⟩
  · have e1 : (Int32.toUInt32 (nI 16) &&& Int32.toUInt32 31) = 16 := by decide +kernel
    rw [e1]
    apply Int32.toBitVec_inj.mp
    apply BitVec.eq_of_toNat_eq
    show ((x.toUInt32 >>> 16).toBitVec &&& (nI 32767).toBitVec).toNat = (nI ((x.toUInt32 >>> 16).toNat % 32768)).toBitVec.toNat
    rw [BitVec.toNat_and, show (nI 32767).toBitVec.toNat = 2 ^ 15 - 1 by decide +kernel, Nat.and_two_pow_sub_one_eq_mod]
    show (x.toUInt32 >>> 16).toNat % 2 ^ 15 = ((x.toUInt32 >>> 16).toNat % 32768) % 2 ^ 32
    omega
  · have e1 : (nI 16 &&& 31) = 16 := by decide +kernel
    rw [e1]
    apply Int32.toBitVec_inj.mp
    apply BitVec.eq_of_getLsbD_eq
    intro i hi
    have e2 : (nI 32767).toBitVec = BitVec.ofNat 32 (2 ^ 15 - 1) := by decide +kernel
    have e3 : (nI ((x.toUInt32 >>> 16).toNat % 32768)).toBitVec = BitVec.ofNat 32 ((x.toBitVec >>> 16).toNat % 2 ^ 15) := rfl
    rw [Int32.toBitVec_and, e2, e3, BitVec.getLsbD_and, BitVec.getLsbD_ofNat, BitVec.getLsbD_ofNat, Nat.testBit_two_pow_sub_one, Nat.testBit_mod_two_pow]
    have e4 : (x >>> 16).toBitVec = x.toBitVec.sshiftRight 16 := rfl
    rw [e4, BitVec.getLsbD_sshiftRight]
    by_cases h15 : i < 15
    · have e5 : (x.toBitVec >>> 16).toNat.testBit i = x.toBitVec.getLsbD (16 + i) := by
        show (x.toBitVec >>> 16).getLsbD i = _
        rw [BitVec.getLsbD_ushiftRight]
      rw [e5, if_pos (by omega)]
      simp [h15, hi]
    · simp [h15]
theorem dd_mod {m : Nat} (h : m < 32768) : nI m - nI m / nI 12 * nI 12 = nI (m % 12) := pk_rem (by omega) (by decide) (by decide)
set_option maxHeartbeats 4000000 in
set_option maxRecDepth 100000 in
theorem c_S_become {G : gx_G} {σ : gs_S} {Q : Option Value → gx_Hp → Prop} {s : ps} {w : gs_Ob} (d : Nat) {i j : Nat} (hi : i < gs_cnt 2) (hj : j < gs_cnt 2) (hij : j ≠ i) (hs : sR (σ 2 j) s) (h6 : s.2 ≤ 6) (hq : ∀ w1, sR w1 s → Q none (hp G (gs_set σ 2 i w1))) : gx_K G yX2_become mX2_become (d + 1) 0 0 [.ref (gs_a G 2 i 0), .ref (gs_a G 2 j 0)] (hp G (gs_set σ 2 i w)) Q := by
  refine gx_K.of' (lv := [(0, _), (1, _)]) (by decide) rfl (by decide) (Nat.le_of_ble_eq_true rfl) rfl ?_
  refine J_aload_n (i := 1) (n := 1) dX2_become_0 rfl rfl rfl ?_
  refine T_getO (k := 0) (n := 4) wk_X2 dX2_become_1 wf_X2_9 (by decide) (by first | assumption | decide) rfl rfl ?_
  refine J_iconst (n := 5) dX2_become_4 kI_0 rfl ?_
  refine J_aload_n (i := 0) (n := 6) dX2_become_5 rfl rfl rfl ?_
  refine T_get (k := 0) (n := 9) wk_X2 dX2_become_6 wf_X2_9 (by decide) (by first | assumption | decide) rfl rfl ?_
  refine J_iconst (n := 10) dX2_become_9 kI_0 rfl ?_
  refine J_bipush (n := 12) dX2_become_10 kB_6 rfl ?_
  refine T_copy (c := 2) (k := 0) (L := 6) (N := 6) (n := 15) dX2_become_12 wm_X2_21 (by decide) hi hj hij (fun _ _ => rfl) (by decide) (Nat.le_of_ble_eq_true rfl) rfl ?_
  refine J_aload_n (i := 1) (n := 16) dX2_become_15 rfl rfl rfl ?_
  refine T_getO (k := 1) (n := 19) wk_X2 dX2_become_16 wf_X2_15 (by decide) (by first | assumption | decide) rfl rfl ?_
  refine J_iconst (n := 20) dX2_become_19 kI_0 rfl ?_
  refine J_aload_n (i := 0) (n := 21) dX2_become_20 rfl rfl rfl ?_
  refine T_get (k := 1) (n := 24) wk_X2 dX2_become_21 wf_X2_15 (by decide) (by first | assumption | decide) rfl rfl ?_
  refine J_iconst (n := 25) dX2_become_24 kI_0 rfl ?_
  refine J_bipush (n := 27) dX2_become_25 kB_6 rfl ?_
  refine T_copy (c := 2) (k := 1) (L := 6) (N := 6) (n := 30) dX2_become_27 wm_X2_21 (by decide) hi hj hij (fun _ _ => rfl) (by decide) (Nat.le_of_ble_eq_true rfl) rfl ?_
  refine J_aload_n (i := 1) (n := 31) dX2_become_30 rfl rfl rfl ?_
  refine T_getO (k := 2) (n := 34) wk_X2 dX2_become_31 wf_X2_18 (by decide) (by first | assumption | decide) rfl rfl ?_
  refine J_iconst (n := 35) dX2_become_34 kI_0 rfl ?_
  refine J_aload_n (i := 0) (n := 36) dX2_become_35 rfl rfl rfl ?_
  refine T_get (k := 2) (n := 39) wk_X2 dX2_become_36 wf_X2_18 (by decide) (by first | assumption | decide) rfl rfl ?_
  refine J_iconst (n := 40) dX2_become_39 kI_0 rfl ?_
  refine J_bipush (n := 42) dX2_become_40 kB_6 rfl ?_
  refine T_copy (c := 2) (k := 2) (L := 6) (N := 6) (n := 45) dX2_become_42 wm_X2_21 (by decide) hi hj hij (fun _ _ => rfl) (by decide) (Nat.le_of_ble_eq_true rfl) rfl ?_
  refine J_aload_n (i := 0) (n := 46) dX2_become_45 rfl rfl rfl ?_
  refine J_aload_n (i := 1) (n := 47) dX2_become_46 rfl rfl rfl ?_
  refine T_getO (k := 3) (n := 50) wk_X2 dX2_become_47 wf_X2_27 (by decide) (by first | assumption | decide) rfl rfl ?_
  rw [gs_neI hij, hs.2]
  refine T_putI (k := 3) (n := 53) wk_X2 dX2_become_50 wf_X2_27 (by decide) (by first | assumption | decide) (kN_i _) rfl (Nat.le_of_ble_eq_true rfl) rfl rfl ?_
  refine J_vret dX2_become_53 rfl ?_
  refine hq _ ⟨fun k hk q hq0 => ?_, by simp [gs_f, upd]⟩
  rcases (show k = 0 ∨ k = 1 ∨ k = 2 by omega) with rfl | rfl | rfl
  · simp only [gs_f, gs_w, va_up]
    simp only [if_true, if_neg (show ¬ (0 : Nat) = 1 by decide), if_neg (show ¬ (0 : Nat) = 2 by decide)]
    rw [va_cpy_in (by omega)]; exact hs.1 0 (by decide) q hq0
  · simp only [gs_f, gs_w, va_up]
    simp only [if_true, if_neg (show ¬ (1 : Nat) = 2 by decide)]
    rw [va_cpy_in (by omega)]; exact hs.1 1 (by decide) q hq0
  · simp only [gs_f, gs_w, va_up]
    simp only [if_true]
    rw [va_cpy_in (by omega)]; exact hs.1 2 (by decide) q hq0

set_option maxHeartbeats 4000000 in
set_option maxRecDepth 100000 in
theorem c_S_add {G : gx_G} {σ : gs_S} {Q : Option Value → gx_Hp → Prop} {s : ps} {w : gs_Ob} (d : Nat) {i n g e : Nat} (hi : i < gs_cnt 2) (hs : sR w s) (h6 : s.2 < 6) (hq : ∀ w1, sR w1 (ps_add s n g e) → Q none (hp G (gs_set σ 2 i w1))) : gx_K G yX2_add mX2_add d 0 0 [.ref (gs_a G 2 i 0), .int (nI n), .int (nI g), .int (nI e)] (hp G (gs_set σ 2 i w)) Q := by
  refine gx_K.of' (lv := [(0, _), (1, _), (2, _), (3, _)]) (by decide) rfl (by decide) (Nat.le_of_ble_eq_true rfl) rfl ?_
  refine J_aload_n (i := 0) (n := 1) dX2_add_0 rfl rfl rfl ?_
  refine T_get (k := 0) (n := 4) wk_X2 dX2_add_1 wf_X2_9 (by decide) (by first | assumption | decide) rfl rfl ?_
  refine J_aload_n (i := 0) (n := 5) dX2_add_4 rfl rfl rfl ?_
  refine T_get (k := 3) (n := 8) wk_X2 dX2_add_5 wf_X2_27 (by decide) (by first | assumption | decide) rfl rfl ?_
  rw [hs.2]
  refine J_iload_n (i := 1) (n := 9) dX2_add_8 rfl rfl rfl ?_
  refine T_iast (c := 2) (k := 0) (N := 6) (n := 10) dX2_add_9 (by decide) (by first | assumption | decide) (fun _ => rfl) (vp_in_nI (by omega) (by decide)) rfl ?_
  rw [nI_clamp (by omega)]
  refine J_aload_n (i := 0) (n := 11) dX2_add_10 rfl rfl rfl ?_
  refine T_get (k := 1) (n := 14) wk_X2 dX2_add_11 wf_X2_15 (by decide) (by first | assumption | decide) rfl rfl ?_
  refine J_aload_n (i := 0) (n := 15) dX2_add_14 rfl rfl rfl ?_
  refine T_get (k := 3) (n := 18) wk_X2 dX2_add_15 wf_X2_27 (by decide) (by first | assumption | decide) rfl rfl ?_
  rw [gs_w_n, hs.2]
  refine J_iload_n (i := 2) (n := 19) dX2_add_18 rfl rfl rfl ?_
  refine T_iast (c := 2) (k := 1) (N := 6) (n := 20) dX2_add_19 (by decide) (by first | assumption | decide) (fun _ => rfl) (vp_in_nI (by omega) (by decide)) rfl ?_
  rw [nI_clamp (by omega)]
  refine J_aload_n (i := 0) (n := 21) dX2_add_20 rfl rfl rfl ?_
  refine T_get (k := 2) (n := 24) wk_X2 dX2_add_21 wf_X2_18 (by decide) (by first | assumption | decide) rfl rfl ?_
  refine J_aload_n (i := 0) (n := 25) dX2_add_24 rfl rfl rfl ?_
  refine T_get (k := 3) (n := 28) wk_X2 dX2_add_25 wf_X2_27 (by decide) (by first | assumption | decide) rfl rfl ?_
  rw [gs_w_n, gs_w_n, hs.2]
  refine J_iload_n (i := 3) (n := 29) dX2_add_28 rfl rfl rfl ?_
  refine T_iast (c := 2) (k := 2) (N := 6) (n := 30) dX2_add_29 (by decide) (by first | assumption | decide) (fun _ => rfl) (vp_in_nI (by omega) (by decide)) rfl ?_
  rw [nI_clamp (by omega)]
  refine J_aload_n (i := 0) (n := 31) dX2_add_30 rfl rfl rfl ?_
  refine J_dup (n := 32) dX2_add_31 rfl rfl ?_
  refine T_get (k := 3) (n := 35) wk_X2 dX2_add_32 wf_X2_27 (by decide) (by first | assumption | decide) rfl rfl ?_
  rw [gs_w_n, gs_w_n, gs_w_n, hs.2]
  refine J_iconst (n := 36) dX2_add_35 kI_1 rfl ?_
  refine J_iadd (n := 37) dX2_add_36 rfl ?_
  rw [nI_add]
  refine T_putI (k := 3) (n := 40) wk_X2 dX2_add_37 wf_X2_27 (by decide) (by first | assumption | decide) (kN_i _) rfl (Nat.le_of_ble_eq_true rfl) rfl rfl ?_
  refine J_vret dX2_add_40 rfl ?_
  refine hq _ ⟨fun k hk q hq0 => ?_, by simp [gs_f, upd, ps_add]⟩
  have hq0 : q < s.2 + 1 := hq0
  show _ = nI (if q = s.2 then (if k = 0 then n else if k = 1 then g else e) else s.1 k q)
  by_cases eq : q = s.2
  · rw [if_pos eq]
    rcases (show k = 0 ∨ k = 1 ∨ k = 2 by omega) with rfl | rfl | rfl <;> simp [gs_f, gs_w, va_up, upd, eq]
  · rw [if_neg eq, ← hs.1 k hk q (by omega)]
    rcases (show k = 0 ∨ k = 1 ∨ k = 2 by omega) with rfl | rfl | rfl <;> simp [gs_f, gs_w, va_up, upd, eq]

set_option maxHeartbeats 4000000 in
set_option maxRecDepth 100000 in
theorem c_G_see {G : gx_G} {σ : gs_S} {Q : Option Value → gx_Hp → Prop} {S : pS} (d : Nat) (n g e : Int32) (hS : SOk S) (hc : cR σ S) (hq : ∀ τ, cR τ (sp_see S n g e).2 → τ 7 0 = σ 7 0 → Q (some (.int (sp_see S n g e).1)) (hp G τ)) : gx_K G yX6_see mX6_see (d + 12) 0 0 [.ref (gs_a G 6 0 0), .int n, .int g, .int e] (hp G σ) Q := by
  obtain ⟨hw, hs⟩ := hc.1
  have hO := hS.1.1
  have h4 : S.1.1.2.2 6 ≤ 4 := hO.2.2.2.2.1
  have h6 : S.1.1.2.2 7 ≤ 6 := hO.2.2.2.2.2.1
  have hm11 : S.1.1.2.2 8 ≤ 11 := hO.2.2.2.2.2.2.1
  have hn9 : S.1.1.2.2 9 ≤ 9999 := hO.2.2.2.2.2.2.2
  have hd9 : S.1.1.2.2 10 ≤ 999 := hS.1.2.2.1
  have e6 := hw.2.2.2.2 6 (by decide) (by decide)
  have e7 := hw.2.2.2.2 7 (by decide) (by decide)
  have e8 := hw.2.2.2.2 8 (by decide) (by decide)
  have e9 := hw.2.2.2.2 9 (by decide) (by decide)
  have e10 := hw.2.2.2.2 10 (by decide) (by decide)
  refine gx_K.of' (lv := [(0, _), (1, _), (2, _), (3, _)]) (by decide) rfl (by decide) (Nat.le_of_ble_eq_true rfl) rfl ?_
  refine J_iload_n (i := 1) (n := 1) dX6_see_0 rfl rfl rfl ?_
  refine J_bipush (n := 3) dX6_see_1 kB_20 rfl ?_
  refine J_callSr (n := 6) wS_X6_isWithin (c_isWithin (d + 11) n 20 ⟨rfl, rfl⟩) dX6_see_3 wm_X6_51 wT_X6_isWithin rfl rfl (Nat.le_of_ble_eq_true rfl) rfl ?_
  refine J_if_eq (tgt := 24) (n := 9) dX6_see_6 (by decide) rfl (fun c_6 => ?_) (fun c_6 => ?_)
  · refine J_iconst (n := 25) dX6_see_24 kI_m1 rfl ?_
    refine J_iret dX6_see_25 rfl (kN_i _) ?_
    unfold sp_see at hq
    rw [if_neg (by
      first
      | (rw [nb_0] at c_6; rw [c_6, Bool.false_and]; decide)
      | (rw [nb_0] at c_14; rw [show isG S g = false from c_14, Bool.false_and, Bool.and_false]; decide)
      | (rw [nb_0] at c_21; rw [c_21, Bool.and_false, Bool.and_false]; decide))] at hq
    exact hq σ hc rfl
  · refine J_aload_n (i := 0) (n := 10) dX6_see_9 rfl rfl rfl ?_
    refine J_iload_n (i := 2) (n := 11) dX6_see_10 rfl rfl rfl ?_
    refine J_callVr (n := 14) wS_X6_isGlove (c_isGlove (d + 10) g hw hO ⟨rfl, rfl⟩) dX6_see_11 wm_X6_121 ⟨wM_X6_isGlove, wV_X6_isGlove⟩ rfl (T_recv (by decide) (by first | assumption | decide)) rfl rfl (Nat.le_of_ble_eq_true rfl) rfl ?_
    refine J_if_eq (tgt := 24) (n := 17) dX6_see_14 (by decide) rfl (fun c_14 => ?_) (fun c_14 => ?_)
    · refine J_iconst (n := 25) dX6_see_24 kI_m1 rfl ?_
      refine J_iret dX6_see_25 rfl (kN_i _) ?_
      unfold sp_see at hq
      rw [if_neg (by
        first
        | (rw [nb_0] at c_6; rw [c_6, Bool.false_and]; decide)
        | (rw [nb_0] at c_14; rw [show isG S g = false from c_14, Bool.false_and, Bool.and_false]; decide)
        | (rw [nb_0] at c_21; rw [c_21, Bool.and_false, Bool.and_false]; decide))] at hq
      exact hq σ hc rfl
    · refine J_iload_n (i := 3) (n := 18) dX6_see_17 rfl rfl rfl ?_
      refine J_callSr (n := 21) wS_X6_isDoor (c_isDoor (d + 10) e ⟨rfl, rfl⟩) dX6_see_18 wm_X6_143 wT_X6_isDoor rfl rfl (Nat.le_of_ble_eq_true rfl) rfl ?_
      refine J_if_ne (tgt := 26) (n := 24) dX6_see_21 (by decide) rfl (fun c_21 => ?_) (fun c_21 => ?_)
      · rw [nb_t] at c_6 c_14 c_21
        unfold sp_see at hq
        rw [if_pos (by rw [c_6, show isG S g = true from c_14, c_21]; rfl)] at hq
        obtain ⟨n, hn20, rfl⟩ := ix_of c_6 (by decide)
        obtain ⟨j, hj, rfl⟩ := isG_of (S := S) c_14 hO
        obtain ⟨e, he11, rfl⟩ := ix_of c_21 (by decide)
        rw [nat_nI (by omega), nat_nI (by omega), nat_nI (by omega)] at hq
        have h6s : S.1.2.2 ≤ 6 := hS.1.2.2.2.1
        refine J_aload_n (i := 0) (n := 27) dX6_see_26 rfl rfl rfl ?_
        refine T_getO (k := 1) (n := 30) wk_X6 dX6_see_27 wf_X6_19 (by decide) (by first | assumption | decide) rfl rfl ?_
        refine T_getO (k := 3) (n := 33) wk_X2 dX6_see_30 wf_X6_89 (by decide) (by first | assumption | decide) rfl rfl ?_
        rw [hs.2]
        refine J_bipush (n := 35) dX6_see_33 kB_6 rfl ?_
        refine J_icmp_lt (tgt := 41) (n := 38) dX6_see_35 (by decide) rfl (fun c_35 => ?_) (fun c_35 => ?_)
        · rw [nI_ltI (by omega) (by omega)] at c_35
          refine J_aload_n (i := 0) (n := 42) dX6_see_41 rfl rfl rfl ?_
          refine T_getO (k := 1) (n := 45) wk_X6 dX6_see_42 wf_X6_19 (by decide) (by first | assumption | decide) rfl rfl ?_
          refine J_iload_n (i := 1) (n := 46) dX6_see_45 rfl rfl rfl ?_
          refine J_iload_n (i := 2) (n := 47) dX6_see_46 rfl rfl rfl ?_
          refine J_iload_n (i := 3) (n := 48) dX6_see_47 rfl rfl rfl ?_
          refine J_callVx (n := 51) wS_X2_add (K_eta 2 0 (c_S_add (Q := fun r h => r = none ∧ ∃ w1, sR w1 (ps_add S.1.2 n j e) ∧ h = hp G (gs_set σ 2 0 w1)) (d + 11) (by decide) hs (by omega) (fun w1 h1 => ⟨rfl, w1, h1, rfl⟩))) dX6_see_48 wm_X6_201 ⟨wM_X2_add, wV_X2_add⟩ rfl (T_recv (by decide) (by first | assumption | decide)) rfl rfl (Nat.le_of_ble_eq_true rfl) rfl (fun r h1 hq1 => ?_)
          obtain ⟨rfl, w1, hw1, rfl⟩ := hq1
          refine J_aload_n (i := 0) (n := 52) dX6_see_51 rfl rfl rfl ?_
          refine T_getO (k := 1) (n := 55) wk_X6 dX6_see_52 wf_X6_19 (by decide) (by first | assumption | decide) rfl rfl ?_
          refine T_getO (k := 3) (n := 58) wk_X2 dX6_see_55 wf_X6_89 (by decide) (by first | assumption | decide) rfl rfl ?_
          refine J_iret dX6_see_58 rfl (kN_i _) ?_
          rw [gs_same, hw1.2]
          rw [if_neg (by omega)] at hq
          exact hq _ (hc.seen hw1) (gs_neC (by decide))
        · rw [nI_ltI (by omega) (by omega)] at c_35
          refine J_bipush (n := 40) dX6_see_38 kB_m3 rfl ?_
          refine J_iret dX6_see_40 rfl (kN_i _) ?_
          rw [if_pos (by omega)] at hq
          exact hq σ hc rfl
      · refine J_iconst (n := 25) dX6_see_24 kI_m1 rfl ?_
        refine J_iret dX6_see_25 rfl (kN_i _) ?_
        unfold sp_see at hq
        rw [if_neg (by
          first
          | (rw [nb_0] at c_6; rw [c_6, Bool.false_and]; decide)
          | (rw [nb_0] at c_14; rw [show isG S g = false from c_14, Bool.false_and, Bool.and_false]; decide)
          | (rw [nb_0] at c_21; rw [c_21, Bool.and_false, Bool.and_false]; decide))] at hq
        exact hq σ hc rfl

set_option maxHeartbeats 4000000 in
set_option maxRecDepth 100000 in
theorem c_G_forget {G : gx_G} {σ : gs_S} {Q : Option Value → gx_Hp → Prop} {S : pS} (d : Nat) (n : Int32) (hS : SOk S) (hc : cR σ S) (hq : ∀ τ, cR τ (sp_forget S n).2 → τ 7 0 = σ 7 0 → Q (some (.int (sp_forget S n).1)) (hp G τ)) : gx_K G yX6_forget mX6_forget (d + 12) 0 0 [.ref (gs_a G 6 0 0), .int n] (hp G σ) Q := by
  obtain ⟨hw, hs⟩ := hc.1
  have hO := hS.1.1
  have h4 : S.1.1.2.2 6 ≤ 4 := hO.2.2.2.2.1
  have h6 : S.1.1.2.2 7 ≤ 6 := hO.2.2.2.2.2.1
  have hm11 : S.1.1.2.2 8 ≤ 11 := hO.2.2.2.2.2.2.1
  have hn9 : S.1.1.2.2 9 ≤ 9999 := hO.2.2.2.2.2.2.2
  have hd9 : S.1.1.2.2 10 ≤ 999 := hS.1.2.2.1
  have e6 := hw.2.2.2.2 6 (by decide) (by decide)
  have e7 := hw.2.2.2.2 7 (by decide) (by decide)
  have e8 := hw.2.2.2.2 8 (by decide) (by decide)
  have e9 := hw.2.2.2.2 9 (by decide) (by decide)
  have e10 := hw.2.2.2.2 10 (by decide) (by decide)
  refine gx_K.of' (lv := [(0, _), (1, _)]) (by decide) rfl (by decide) (Nat.le_of_ble_eq_true rfl) rfl ?_
  refine J_iload_n (i := 1) (n := 1) dX6_forget_0 rfl rfl rfl ?_
  refine J_aload_n (i := 0) (n := 2) dX6_forget_1 rfl rfl rfl ?_
  refine T_getO (k := 1) (n := 5) wk_X6 dX6_forget_2 wf_X6_19 (by decide) (by first | assumption | decide) rfl rfl ?_
  refine T_getO (k := 3) (n := 8) wk_X2 dX6_forget_5 wf_X6_89 (by decide) (by first | assumption | decide) rfl rfl ?_
  rw [hs.2]
  refine J_callSr (n := 11) wS_X6_isWithin (c_isWithin (d + 11) n S.1.2.2 ⟨rfl, rfl⟩) dX6_forget_8 wm_X6_51 wT_X6_isWithin rfl rfl (Nat.le_of_ble_eq_true rfl) rfl ?_
  refine J_if_ne (tgt := 16) (n := 14) dX6_forget_11 (by decide) rfl (fun c_11 => ?_) (fun c_11 => ?_)
  · rw [nb_t] at c_11
    have h6s : S.1.2.2 ≤ 6 := hS.1.2.2.2.1
    unfold sp_forget at hq
    rw [if_pos c_11] at hq
    obtain ⟨j, hj, rfl⟩ := ix_of c_11 (by omega)
    rw [nat_nI (by omega)] at hq
    refine J_aload_n (i := 0) (n := 17) dX6_forget_16 rfl rfl rfl ?_
    refine T_getO (k := 1) (n := 20) wk_X6 dX6_forget_17 wf_X6_19 (by decide) (by first | assumption | decide) rfl rfl ?_
    refine T_getO (k := 3) (n := 23) wk_X2 dX6_forget_20 wf_X6_89 (by decide) (by first | assumption | decide) rfl rfl ?_
    rw [hs.2]
    refine J_istore_n (i := 2) (n := 24) (lv' := [(0, _), (1, _), (2, _)]) dX6_forget_23 rfl (by decide) rfl rfl ?_
    refine J_aload_n (i := 0) (n := 25) dX6_forget_24 rfl rfl rfl ?_
    refine T_getO (k := 1) (n := 28) wk_X6 dX6_forget_25 wf_X6_19 (by decide) (by first | assumption | decide) rfl rfl ?_
    refine J_eta 2 0 ?_
    refine J_iload_n (i := 1) (n := 29) dX6_forget_28 rfl rfl rfl ?_
    refine T_putI (k := 3) (n := 32) wk_X2 dX6_forget_29 wf_X6_89 (by decide) (by first | assumption | decide) (kN_i _) rfl (Nat.le_of_ble_eq_true rfl) rfl rfl ?_
    refine J_iload_n (i := 2) (n := 33) dX6_forget_32 rfl rfl rfl ?_
    refine J_iret dX6_forget_33 rfl (kN_i _) ?_
    refine hq _ (hc.seen (s := (S.1.2.1, j)) ⟨fun k hk q hq0 => ?_, by simp [gs_f, upd]⟩) (gs_neC (by decide))
    have hq0 : q < j := hq0
    exact hs.1 k hk q (by omega)
  · refine J_iconst (n := 15) dX6_forget_14 kI_m1 rfl ?_
    refine J_iret dX6_forget_15 rfl (kN_i _) ?_
    rw [nb_0] at c_11
    unfold sp_forget at hq
    rw [c_11, if_neg (by decide)] at hq
    exact hq σ hc rfl

set_option maxHeartbeats 4000000 in
set_option maxRecDepth 100000 in
theorem c_G_keep {G : gx_G} {σ : gs_S} {Q : Option Value → gx_Hp → Prop} {S : pS} (d : Nat) (x : Int32) (hS : SOk S) (hc : cR σ S) (hq : ∀ τ, cR τ (sp_keep S x).2 → τ 7 0 = σ 7 0 → Q (some (.int (sp_keep S x).1)) (hp G τ)) : gx_K G yX6_keep mX6_keep (d + 12) 0 0 [.ref (gs_a G 6 0 0), .int x] (hp G σ) Q := by
  obtain ⟨hw, hs⟩ := hc.1
  have hO := hS.1.1
  have h4 : S.1.1.2.2 6 ≤ 4 := hO.2.2.2.2.1
  have h6 : S.1.1.2.2 7 ≤ 6 := hO.2.2.2.2.2.1
  have hm11 : S.1.1.2.2 8 ≤ 11 := hO.2.2.2.2.2.2.1
  have hn9 : S.1.1.2.2 9 ≤ 9999 := hO.2.2.2.2.2.2.2
  have hd9 : S.1.1.2.2 10 ≤ 999 := hS.1.2.2.1
  have e6 := hw.2.2.2.2 6 (by decide) (by decide)
  have e7 := hw.2.2.2.2 7 (by decide) (by decide)
  have e8 := hw.2.2.2.2 8 (by decide) (by decide)
  have e9 := hw.2.2.2.2 9 (by decide) (by decide)
  have e10 := hw.2.2.2.2 10 (by decide) (by decide)
  refine gx_K.of' (lv := [(0, _), (1, _)]) (by decide) rfl (by decide) (Nat.le_of_ble_eq_true rfl) rfl ?_
  refine J_iload_n (i := 1) (n := 1) dX6_keep_0 rfl rfl rfl ?_
  refine J_iconst (n := 2) dX6_keep_1 kI_1 rfl ?_
  refine J_callSr (n := 5) wS_X6_isWithin (c_isWithin (d + 11) x 1 ⟨rfl, rfl⟩) dX6_keep_2 wm_X6_51 wT_X6_isWithin rfl rfl (Nat.le_of_ble_eq_true rfl) rfl ?_
  refine J_if_ne (tgt := 10) (n := 8) dX6_keep_5 (by decide) rfl (fun c_5 => ?_) (fun c_5 => ?_)
  · rw [nb_t] at c_5
    unfold sp_keep at hq
    rw [if_pos c_5] at hq
    obtain ⟨k, hk1, rfl⟩ := ix_of c_5 (by decide)
    rw [nat_nI (by omega)] at hq
    have hk2 : k < gs_cnt 0 := by show k < 2; omega
    have hk5 : 11 + k < gs_cnt 5 := by show 11 + k < 14; omega
    have hks : 1 + k < gs_cnt 2 := by show 1 + k < 3; omega
    have h6s : S.1.2.2 ≤ 6 := hS.1.2.2.2.1
    obtain ⟨hkp, hki⟩ := hc.2.1 k (by omega)
    refine J_aload_n (i := 0) (n := 11) dX6_keep_10 rfl rfl rfl ?_
    refine T_getO (k := 5) (n := 14) wk_X6 dX6_keep_11 wf_X6_39 (by decide) (by first | assumption | decide) rfl rfl ?_
    refine J_iload_n (i := 1) (n := 15) dX6_keep_14 rfl rfl rfl ?_
    refine T_aald (k := 5) (t := 4) (N := 2) (n := 16) dX6_keep_15 (by decide) rfl rfl (vp_in_nI (by omega) (by decide)) rfl rfl ?_
    rw [nI_clamp (by omega)]
    refine J_astore_n (i := 2) (n := 17) (lv' := [(0, _), (1, _), (2, _)]) dX6_keep_16 rfl (by decide) rfl rfl ?_
    refine J_aload_n (i := 2) (n := 18) dX6_keep_17 rfl rfl rfl ?_
    refine T_getO (k := 2) (n := 21) wk_X0 dX6_keep_18 wf_X6_92 (by decide) (by first | assumption | decide) rfl rfl ?_
    rw [hkp]
    refine J_if_eq (tgt := 28) (n := 24) dX6_keep_21 (by decide) rfl (fun c_21 => ?_) (fun c_21 => ?_)
    · refine J_iconst (n := 29) dX6_keep_28 kI_0 rfl ?_
      refine J_istore_n (i := 3) (n := 30) (lv' := [(0, _), (1, _), (2, _), (3, _)]) dX6_keep_29 rfl (by decide) rfl rfl ?_
      refine J_aload_n (i := 2) (n := 31) dX6_keep_30 rfl rfl rfl ?_
      refine J_iconst (n := 32) dX6_keep_31 kI_1 rfl ?_
      refine J_eta 0 k ?_
      refine T_putI (k := 2) (n := 35) wk_X0 dX6_keep_32 wf_X6_92 (by decide) (by first | assumption | decide) (by first | exact kN_0 | exact kN_1) rfl (Nat.le_of_ble_eq_true rfl) rfl rfl ?_
      refine J_aload_n (i := 2) (n := 36) dX6_keep_35 rfl rfl rfl ?_
      refine T_getO (k := 0) (n := 39) wk_X0 dX6_keep_36 wf_X6_222 (by decide) (by first | assumption | decide) rfl rfl ?_
      refine J_aload_n (i := 0) (n := 40) dX6_keep_39 rfl rfl rfl ?_
      refine T_getO (k := 0) (n := 43) wk_X6 dX6_keep_40 wf_X6_10 (by decide) (by first | assumption | decide) rfl rfl ?_
      refine J_callVx (n := 46) wS_X5_become (K_eta 5 (11 + k) (c_W_become (Q := fun r h => r = none ∧ ∃ t1, wR t1 S.1.1 ∧ h = hp G (gs_set (gs_set σ 0 k (gs_f (σ 0 k) 2 (nI 1))) 5 (11 + k) t1)) (d + 10) (i := 11 + k) (j := 0) hk5 (by decide) (by omega) (show wR ((gs_set σ 0 k (gs_f (σ 0 k) 2 (nI 1))) 5 0) S.1.1 by rw [gs_neC (by decide)]; exact hw) hO (fun t1 h1 => ⟨rfl, t1, h1, rfl⟩))) dX6_keep_43 wm_X6_85 ⟨wM_X5_become, wV_X5_become⟩ rfl (T_recv (by decide) (by first | assumption | decide)) rfl rfl (Nat.le_of_ble_eq_true rfl) rfl (fun r h1 hq1 => ?_)
      obtain ⟨rfl, t1, hw1, rfl⟩ := hq1
      refine J_aload_n (i := 2) (n := 47) dX6_keep_46 rfl rfl rfl ?_
      refine T_getO (k := 1) (n := 50) wk_X0 dX6_keep_47 wf_X6_225 (by decide) (by first | assumption | decide) rfl rfl ?_
      refine J_aload_n (i := 0) (n := 51) dX6_keep_50 rfl rfl rfl ?_
      refine T_getO (k := 1) (n := 54) wk_X6 dX6_keep_51 wf_X6_19 (by decide) (by first | assumption | decide) rfl rfl ?_
      refine J_callVx (n := 57) wS_X2_become (K_eta 2 (1 + k) (c_S_become (Q := fun r h => r = none ∧ ∃ s1, sR s1 S.1.2 ∧ h = hp G (gs_set (gs_set (gs_set σ 0 k (gs_f (σ 0 k) 2 (nI 1))) 5 (11 + k) t1) 2 (1 + k) s1)) (d + 10) (i := 1 + k) (j := 0) hks (by decide) (by omega) (show sR (gs_set (gs_set σ 0 k (gs_f (σ 0 k) 2 (nI 1))) 5 (11 + k) t1 2 0) S.1.2 by rw [gs_neC (by decide), gs_neC (by decide)]; exact hs) h6s (fun s1 h1 => ⟨rfl, s1, h1, rfl⟩))) dX6_keep_54 wm_X6_226 ⟨wM_X2_become, wV_X2_become⟩ rfl (T_recv (by decide) (by first | assumption | decide)) rfl rfl (Nat.le_of_ble_eq_true rfl) rfl (fun r h1 hq1 => ?_)
      obtain ⟨rfl, s1, hs1, rfl⟩ := hq1
      refine J_iload_n (i := 3) (n := 58) dX6_keep_57 rfl rfl rfl ?_
      refine J_iret dX6_keep_58 rfl (kN_i _) ?_
      have h0 := hq _ (hc.keep (by omega) (w0 := gs_f (σ 0 k) 2 (nI 1)) (by simp [gs_f, upd]) hw1 hs1) (by rw [gs_neC (by decide), gs_neC (by decide), gs_neC (by decide)])
      first
      | (rw [(nb_0 _).mp c_21] at h0; exact h0)
      | (rw [(nb_t _).mp c_21] at h0; exact h0)
    · refine J_iconst (n := 25) dX6_keep_24 kI_1 rfl ?_
      refine J_goto (tgt := 29) dX6_keep_25 (by decide) ?_
      refine J_istore_n (i := 3) (n := 30) (lv' := [(0, _), (1, _), (2, _), (3, _)]) dX6_keep_29 rfl (by decide) rfl rfl ?_
      refine J_aload_n (i := 2) (n := 31) dX6_keep_30 rfl rfl rfl ?_
      refine J_iconst (n := 32) dX6_keep_31 kI_1 rfl ?_
      refine J_eta 0 k ?_
      refine T_putI (k := 2) (n := 35) wk_X0 dX6_keep_32 wf_X6_92 (by decide) (by first | assumption | decide) (by first | exact kN_0 | exact kN_1) rfl (Nat.le_of_ble_eq_true rfl) rfl rfl ?_
      refine J_aload_n (i := 2) (n := 36) dX6_keep_35 rfl rfl rfl ?_
      refine T_getO (k := 0) (n := 39) wk_X0 dX6_keep_36 wf_X6_222 (by decide) (by first | assumption | decide) rfl rfl ?_
      refine J_aload_n (i := 0) (n := 40) dX6_keep_39 rfl rfl rfl ?_
      refine T_getO (k := 0) (n := 43) wk_X6 dX6_keep_40 wf_X6_10 (by decide) (by first | assumption | decide) rfl rfl ?_
      refine J_callVx (n := 46) wS_X5_become (K_eta 5 (11 + k) (c_W_become (Q := fun r h => r = none ∧ ∃ t1, wR t1 S.1.1 ∧ h = hp G (gs_set (gs_set σ 0 k (gs_f (σ 0 k) 2 (nI 1))) 5 (11 + k) t1)) (d + 10) (i := 11 + k) (j := 0) hk5 (by decide) (by omega) (show wR ((gs_set σ 0 k (gs_f (σ 0 k) 2 (nI 1))) 5 0) S.1.1 by rw [gs_neC (by decide)]; exact hw) hO (fun t1 h1 => ⟨rfl, t1, h1, rfl⟩))) dX6_keep_43 wm_X6_85 ⟨wM_X5_become, wV_X5_become⟩ rfl (T_recv (by decide) (by first | assumption | decide)) rfl rfl (Nat.le_of_ble_eq_true rfl) rfl (fun r h1 hq1 => ?_)
      obtain ⟨rfl, t1, hw1, rfl⟩ := hq1
      refine J_aload_n (i := 2) (n := 47) dX6_keep_46 rfl rfl rfl ?_
      refine T_getO (k := 1) (n := 50) wk_X0 dX6_keep_47 wf_X6_225 (by decide) (by first | assumption | decide) rfl rfl ?_
      refine J_aload_n (i := 0) (n := 51) dX6_keep_50 rfl rfl rfl ?_
      refine T_getO (k := 1) (n := 54) wk_X6 dX6_keep_51 wf_X6_19 (by decide) (by first | assumption | decide) rfl rfl ?_
      refine J_callVx (n := 57) wS_X2_become (K_eta 2 (1 + k) (c_S_become (Q := fun r h => r = none ∧ ∃ s1, sR s1 S.1.2 ∧ h = hp G (gs_set (gs_set (gs_set σ 0 k (gs_f (σ 0 k) 2 (nI 1))) 5 (11 + k) t1) 2 (1 + k) s1)) (d + 10) (i := 1 + k) (j := 0) hks (by decide) (by omega) (show sR (gs_set (gs_set σ 0 k (gs_f (σ 0 k) 2 (nI 1))) 5 (11 + k) t1 2 0) S.1.2 by rw [gs_neC (by decide), gs_neC (by decide)]; exact hs) h6s (fun s1 h1 => ⟨rfl, s1, h1, rfl⟩))) dX6_keep_54 wm_X6_226 ⟨wM_X2_become, wV_X2_become⟩ rfl (T_recv (by decide) (by first | assumption | decide)) rfl rfl (Nat.le_of_ble_eq_true rfl) rfl (fun r h1 hq1 => ?_)
      obtain ⟨rfl, s1, hs1, rfl⟩ := hq1
      refine J_iload_n (i := 3) (n := 58) dX6_keep_57 rfl rfl rfl ?_
      refine J_iret dX6_keep_58 rfl (kN_i _) ?_
      have h0 := hq _ (hc.keep (by omega) (w0 := gs_f (σ 0 k) 2 (nI 1)) (by simp [gs_f, upd]) hw1 hs1) (by rw [gs_neC (by decide), gs_neC (by decide), gs_neC (by decide)])
      first
      | (rw [(nb_0 _).mp c_21] at h0; exact h0)
      | (rw [(nb_t _).mp c_21] at h0; exact h0)
  · refine J_iconst (n := 9) dX6_keep_8 kI_m1 rfl ?_
    refine J_iret dX6_keep_9 rfl (kN_i _) ?_
    rw [nb_0] at c_5
    unfold sp_keep at hq
    rw [c_5, if_neg (by decide)] at hq
    exact hq σ hc rfl

set_option maxHeartbeats 4000000 in
set_option maxRecDepth 100000 in
theorem c_G_back {G : gx_G} {σ : gs_S} {Q : Option Value → gx_Hp → Prop} {S : pS} (d : Nat) (x : Int32) (hS : SOk S) (hc : cR σ S) (hq : ∀ τ, cR τ (sp_back S x).2 → τ 7 0 = σ 7 0 → Q (some (.int (sp_back S x).1)) (hp G τ)) : gx_K G yX6_back mX6_back (d + 12) 0 0 [.ref (gs_a G 6 0 0), .int x] (hp G σ) Q := by
  obtain ⟨hw, hs⟩ := hc.1
  have hO := hS.1.1
  have h4 : S.1.1.2.2 6 ≤ 4 := hO.2.2.2.2.1
  have h6 : S.1.1.2.2 7 ≤ 6 := hO.2.2.2.2.2.1
  have hm11 : S.1.1.2.2 8 ≤ 11 := hO.2.2.2.2.2.2.1
  have hn9 : S.1.1.2.2 9 ≤ 9999 := hO.2.2.2.2.2.2.2
  have hd9 : S.1.1.2.2 10 ≤ 999 := hS.1.2.2.1
  have e6 := hw.2.2.2.2 6 (by decide) (by decide)
  have e7 := hw.2.2.2.2 7 (by decide) (by decide)
  have e8 := hw.2.2.2.2 8 (by decide) (by decide)
  have e9 := hw.2.2.2.2 9 (by decide) (by decide)
  have e10 := hw.2.2.2.2 10 (by decide) (by decide)
  refine gx_K.of' (lv := [(0, _), (1, _)]) (by decide) rfl (by decide) (Nat.le_of_ble_eq_true rfl) rfl ?_
  refine J_iload_n (i := 1) (n := 1) dX6_back_0 rfl rfl rfl ?_
  refine J_iconst (n := 2) dX6_back_1 kI_1 rfl ?_
  refine J_callSr (n := 5) wS_X6_isWithin (c_isWithin (d + 11) x 1 ⟨rfl, rfl⟩) dX6_back_2 wm_X6_51 wT_X6_isWithin rfl rfl (Nat.le_of_ble_eq_true rfl) rfl ?_
  refine J_if_ne (tgt := 10) (n := 8) dX6_back_5 (by decide) rfl (fun c_5 => ?_) (fun c_5 => ?_)
  · rw [nb_t] at c_5
    unfold sp_back at hq
    rw [if_pos c_5] at hq
    obtain ⟨k, hk1, rfl⟩ := ix_of c_5 (by decide)
    rw [nat_nI (by omega)] at hq
    have hk2 : k < gs_cnt 0 := by show k < 2; omega
    have hk5 : 11 + k < gs_cnt 5 := by show 11 + k < 14; omega
    have hks : 1 + k < gs_cnt 2 := by show 1 + k < 3; omega
    have h6s : S.1.2.2 ≤ 6 := hS.1.2.2.2.1
    obtain ⟨hkp, hki⟩ := hc.2.1 k (by omega)
    refine J_aload_n (i := 0) (n := 11) dX6_back_10 rfl rfl rfl ?_
    refine T_getO (k := 5) (n := 14) wk_X6 dX6_back_11 wf_X6_39 (by decide) (by first | assumption | decide) rfl rfl ?_
    refine J_iload_n (i := 1) (n := 15) dX6_back_14 rfl rfl rfl ?_
    refine T_aald (k := 5) (t := 4) (N := 2) (n := 16) dX6_back_15 (by decide) rfl rfl (vp_in_nI (by omega) (by decide)) rfl rfl ?_
    rw [nI_clamp (by omega)]
    refine J_astore_n (i := 2) (n := 17) (lv' := [(0, _), (1, _), (2, _)]) dX6_back_16 rfl (by decide) rfl rfl ?_
    refine J_aload_n (i := 2) (n := 18) dX6_back_17 rfl rfl rfl ?_
    refine T_getO (k := 2) (n := 21) wk_X0 dX6_back_18 wf_X6_92 (by decide) (by first | assumption | decide) rfl rfl ?_
    rw [hkp]
    refine J_if_ne (tgt := 27) (n := 24) dX6_back_21 (by decide) rfl (fun c_21 => ?_) (fun c_21 => ?_)
    · rw [nb_t] at c_21
      rw [if_pos c_21] at hq
      have hI := hki c_21
      have hOk := hS.2.1 k (by omega) c_21
      refine J_aload_n (i := 0) (n := 28) dX6_back_27 rfl rfl rfl ?_
      refine T_getO (k := 0) (n := 31) wk_X6 dX6_back_28 wf_X6_10 (by decide) (by first | assumption | decide) rfl rfl ?_
      refine J_aload_n (i := 2) (n := 32) dX6_back_31 rfl rfl rfl ?_
      refine T_getO (k := 0) (n := 35) wk_X0 dX6_back_32 wf_X6_222 (by decide) (by first | assumption | decide) rfl rfl ?_
      refine J_callVx (n := 38) wS_X5_become (K_eta 5 0 (c_W_become (Q := fun r h => r = none ∧ ∃ t1, wR t1 (S.2.2.1 k).1 ∧ h = hp G (gs_set σ 5 0 t1)) (d + 10) (i := 0) (j := 11 + k) (by decide) hk5 (by omega) hI.1 hOk.1.1 (fun t1 h1 => ⟨rfl, t1, h1, rfl⟩))) dX6_back_35 wm_X6_85 ⟨wM_X5_become, wV_X5_become⟩ rfl (T_recv (by decide) (by first | assumption | decide)) rfl rfl (Nat.le_of_ble_eq_true rfl) rfl (fun r h1 hq1 => ?_)
      obtain ⟨rfl, t1, hw1, rfl⟩ := hq1
      refine J_aload_n (i := 0) (n := 39) dX6_back_38 rfl rfl rfl ?_
      refine T_getO (k := 1) (n := 42) wk_X6 dX6_back_39 wf_X6_19 (by decide) (by first | assumption | decide) rfl rfl ?_
      refine J_aload_n (i := 2) (n := 43) dX6_back_42 rfl rfl rfl ?_
      refine T_getO (k := 1) (n := 46) wk_X0 dX6_back_43 wf_X6_225 (by decide) (by first | assumption | decide) rfl rfl ?_
      refine J_callVx (n := 49) wS_X2_become (K_eta 2 0 (c_S_become (Q := fun r h => r = none ∧ ∃ s1, sR s1 (S.2.2.1 k).2 ∧ h = hp G (gs_set (gs_set σ 5 0 t1) 2 0 s1)) (d + 10) (i := 0) (j := 1 + k) (by decide) hks (by omega) (show sR (gs_set σ 5 0 t1 2 (1 + k)) (S.2.2.1 k).2 by rw [gs_neC (by decide)]; exact hI.2) hOk.1.2.2.2.1 (fun s1 h1 => ⟨rfl, s1, h1, rfl⟩))) dX6_back_46 wm_X6_226 ⟨wM_X2_become, wV_X2_become⟩ rfl (T_recv (by decide) (by first | assumption | decide)) rfl rfl (Nat.le_of_ble_eq_true rfl) rfl (fun r h1 hq1 => ?_)
      obtain ⟨rfl, s1, hs1, rfl⟩ := hq1
      refine J_aload_n (i := 0) (n := 50) dX6_back_49 rfl rfl rfl ?_
      refine T_getO (k := 0) (n := 53) wk_X6 dX6_back_50 wf_X6_10 (by decide) (by first | assumption | decide) rfl rfl ?_
      refine T_getO (k := 10) (n := 56) wk_X5 dX6_back_53 wf_X6_102 (by decide) (by first | assumption | decide) rfl rfl ?_
      refine J_iret dX6_back_56 rfl (kN_i _) ?_
      rw [gs_neC (by decide), gs_same, hw1.2.2.2.2 10 (by decide) (by decide)]
      exact hq _ ((hc.now hw1).seen hs1) (by rw [gs_neC (by decide), gs_neC (by decide)])
    · rw [nb_0] at c_21
      rw [if_neg (by rw [c_21]; decide)] at hq
      refine J_bipush (n := 26) dX6_back_24 kB_m2 rfl ?_
      refine J_iret dX6_back_26 rfl (kN_i _) ?_
      exact hq σ hc rfl
  · refine J_iconst (n := 9) dX6_back_8 kI_m1 rfl ?_
    refine J_iret dX6_back_9 rfl (kN_i _) ?_
    rw [nb_0] at c_5
    unfold sp_back at hq
    rw [c_5, if_neg (by decide)] at hq
    exact hq σ hc rfl

set_option maxHeartbeats 4000000 in
set_option maxRecDepth 100000 in
theorem c_H_makeNew {G : gx_G} {σ : gs_S} {Q : Option Value → gx_Hp → Prop} {w : gs_Ob} (d : Nat) {i : Nat} (l n : Int32) (hi : i < gs_cnt 1) (hq : ∀ w1 : gs_Ob, (∀ q, q < 40 → w1.1 0 q = nI 0) → w1.2.1 1 = l → w1.2.1 2 = n → Q none (hp G (gs_set σ 1 i w1))) : gx_K G yX1_makeNew mX1_makeNew (d + 1) 0 0 [.ref (gs_a G 1 i 0), .int l, .int n] (hp G (gs_set σ 1 i w)) Q := by
  refine gx_K.of' (lv := [(0, _), (1, _), (2, _)]) (by decide) rfl (by decide) (Nat.le_of_ble_eq_true rfl) rfl ?_
  refine J_aload_n (i := 0) (n := 1) dX1_makeNew_0 rfl rfl rfl ?_
  refine T_get (k := 0) (n := 4) wk_X1 dX1_makeNew_1 wf_X1_9 (by decide) (by first | assumption | decide) rfl rfl ?_
  refine J_iconst (n := 5) dX1_makeNew_4 kI_0 rfl ?_
  refine J_callSx (n := 8) wS_J7_fill_53178 (c_fill_S (Q := fun r h => r = none ∧ ∃ w1 : gs_Ob, (∀ q, q < 40 → w1.1 0 q = nI 0) ∧ h = hp G (gs_set σ 1 i w1)) d (nI 0) hi (fun w1 h1 _ _ => ⟨rfl, w1, h1, rfl⟩)) dX1_makeNew_5 wm_X1_19 wT_J7_fill_53178 rfl rfl (Nat.le_of_ble_eq_true rfl) rfl (fun r h1 hq1 => ?_)
  obtain ⟨rfl, w1, hw1, rfl⟩ := hq1
  refine J_aload_n (i := 0) (n := 9) dX1_makeNew_8 rfl rfl rfl ?_
  refine J_iload_n (i := 1) (n := 10) dX1_makeNew_9 rfl rfl rfl ?_
  refine T_putI (k := 1) (n := 13) wk_X1 dX1_makeNew_10 wf_X1_15 (by decide) (by first | assumption | decide) (kN_i _) rfl (Nat.le_of_ble_eq_true rfl) rfl rfl ?_
  refine J_aload_n (i := 0) (n := 14) dX1_makeNew_13 rfl rfl rfl ?_
  refine J_iload_n (i := 2) (n := 15) dX1_makeNew_14 rfl rfl rfl ?_
  refine T_putI (k := 2) (n := 18) wk_X1 dX1_makeNew_15 wf_X1_25 (by decide) (by first | assumption | decide) (kN_i _) rfl (Nat.le_of_ble_eq_true rfl) rfl rfl ?_
  refine J_vret dX1_makeNew_18 rfl ?_
  exact hq _ (fun q hq0 => hw1 q hq0) (by simp [gs_f, upd]) (by simp [gs_f, upd])

set_option maxHeartbeats 4000000 in
set_option maxRecDepth 100000 in
theorem c_H_isNothing {G : gx_G} {σ : gs_S} {Q : Option Value → gx_Hp → Prop} (d : Nat) {i : Nat} {x : (Nat → Int32) × Nat × Nat} (hi : i < gs_cnt 1) (hl : (σ 1 i).2.1 1 = (if x.2.1 = 9 then -1 else nI x.2.1)) (hb : x.2.1 ≤ 2 ∨ x.2.1 = 9) (hq : Q (some (.int (nI (decide (x.2.1 = 9)).toNat))) (hp G σ)) : gx_K G yX1_isNothing mX1_isNothing d 0 0 [.ref (gs_a G 1 i 0)] (hp G σ) Q := by
  have h9 : (if x.2.1 = 9 then (-1 : Int32) else nI x.2.1) = -1 ↔ x.2.1 = 9 := by
    by_cases e9 : x.2.1 = 9
    · rw [if_pos e9]; exact ⟨fun _ => e9, fun _ => rfl⟩
    · rw [if_neg e9]; exact ⟨fun q => absurd (by rw [q]; decide +kernel : nI x.2.1 < 0) (nI_pos (by omega)), fun q => absurd q e9⟩
  refine gx_K.of' (lv := [(0, _)]) (by decide) rfl (by decide) (Nat.le_of_ble_eq_true rfl) rfl ?_
  refine J_aload_n (i := 0) (n := 1) dX1_isNothing_0 rfl rfl rfl ?_
  refine T_getO (k := 1) (n := 4) wk_X1 dX1_isNothing_1 wf_X1_15 (by decide) (by first | assumption | decide) rfl rfl ?_
  rw [hl]
  refine J_iconst (n := 5) dX1_isNothing_4 kI_m1 rfl ?_
  refine J_icmp_ne (tgt := 12) (n := 8) dX1_isNothing_5 (by decide) rfl (fun c_5 => ?_) (fun c_5 => ?_)
  · refine J_iconst (n := 13) dX1_isNothing_12 kI_0 rfl ?_
    refine J_iret dX1_isNothing_13 rfl (by first | exact kN_0 | exact kN_1) ?_
    rw [h9] at c_5
    first
    | (rw [decide_eq_false c_5] at hq; exact hq)
    | (rw [decide_eq_true (Classical.not_not.mp c_5)] at hq; exact hq)
    | (rw [decide_eq_true c_5] at hq; exact hq)
  · refine J_iconst (n := 9) dX1_isNothing_8 kI_1 rfl ?_
    refine J_goto (tgt := 13) dX1_isNothing_9 (by decide) ?_
    refine J_iret dX1_isNothing_13 rfl (by first | exact kN_0 | exact kN_1) ?_
    rw [h9] at c_5
    first
    | (rw [decide_eq_false c_5] at hq; exact hq)
    | (rw [decide_eq_true (Classical.not_not.mp c_5)] at hq; exact hq)
    | (rw [decide_eq_true c_5] at hq; exact hq)

set_option maxHeartbeats 4000000 in
set_option maxRecDepth 100000 in
theorem c_H_faultAt {G : gx_G} {σ : gs_S} {Q : Option Value → gx_Hp → Prop} (d : Nat) {i : Nat} {x : (Nat → Int32) × Nat × Nat} (hi : i < gs_cnt 1) (hl : (σ 1 i).2.1 1 = (if x.2.1 = 9 then -1 else nI x.2.1)) (hb : x.2.1 ≤ 2 ∨ x.2.1 = 9) (hz : (σ 1 i).2.1 2 = nI x.2.2) (h40 : x.2.2 ≤ 40) (v : Int32) (hq : Q (some (.int (nI (fa x v)))) (hp G σ)) : gx_K G yX1_faultAt mX1_faultAt (d + 1) 0 0 [.ref (gs_a G 1 i 0), .int v] (hp G σ) Q := by
  refine gx_K.of' (lv := [(0, _), (1, _)]) (by decide) rfl (by decide) (Nat.le_of_ble_eq_true rfl) rfl ?_
  refine J_aload_n (i := 0) (n := 1) dX1_faultAt_0 rfl rfl rfl ?_
  refine J_callVr (n := 4) wS_X1_isNothing (c_H_isNothing d hi hl hb ⟨rfl, rfl⟩) dX1_faultAt_1 wm_X1_28 ⟨wM_X1_isNothing, wV_X1_isNothing⟩ rfl (T_recv (by decide) (by first | assumption | decide)) rfl rfl (Nat.le_of_ble_eq_true rfl) rfl ?_
  refine J_if_eq (tgt := 9) (n := 7) dX1_faultAt_4 (by decide) rfl (fun c_4 => ?_) (fun c_4 => ?_)
  · refine J_iload_n (i := 1) (n := 10) dX1_faultAt_9 rfl rfl rfl ?_
    refine J_aload_n (i := 0) (n := 11) dX1_faultAt_10 rfl rfl rfl ?_
    refine T_getO (k := 2) (n := 14) wk_X1 dX1_faultAt_11 wf_X1_25 (by decide) (by first | assumption | decide) rfl rfl ?_
    rw [hz]
    refine J_iconst (n := 15) dX1_faultAt_14 kI_1 rfl ?_
    refine J_isub (n := 16) dX1_faultAt_15 rfl ?_
    refine J_callSNr (n := 19) wS_X6_isWithin (c_isWithin1 d v x.2.2 (by omega) ⟨rfl, rfl⟩) dX1_faultAt_16 wn_X1_32 wT_X6_isWithin rfl rfl (Nat.le_of_ble_eq_true rfl) rfl ?_
    refine J_if_eq (tgt := 26) (n := 22) dX1_faultAt_19 (by decide) rfl (fun c_19 => ?_) (fun c_19 => ?_)
    · refine J_iconst (n := 27) dX1_faultAt_26 kI_2 rfl ?_
      refine J_iret dX1_faultAt_27 rfl (kN_i _) ?_
      rw [nb_0, decide_eq_false_iff_not] at c_4
      unfold fa at hq
      rw [if_neg c_4] at hq
      first
      | (rw [nb_0] at c_19; rw [c_19, if_neg (by decide)] at hq; exact hq)
      | (rw [nb_t] at c_19; rw [if_pos c_19] at hq; exact hq)
    · refine J_iconst (n := 23) dX1_faultAt_22 kI_0 rfl ?_
      refine J_goto (tgt := 27) dX1_faultAt_23 (by decide) ?_
      refine J_iret dX1_faultAt_27 rfl (kN_i _) ?_
      rw [nb_0, decide_eq_false_iff_not] at c_4
      unfold fa at hq
      rw [if_neg c_4] at hq
      first
      | (rw [nb_0] at c_19; rw [c_19, if_neg (by decide)] at hq; exact hq)
      | (rw [nb_t] at c_19; rw [if_pos c_19] at hq; exact hq)
  · refine J_iconst (n := 8) dX1_faultAt_7 kI_1 rfl ?_
    refine J_iret dX1_faultAt_8 rfl (kN_i _) ?_
    rw [nb_t, decide_eq_true_eq] at c_4
    unfold fa at hq
    rw [if_pos c_4] at hq
    exact hq

set_option maxHeartbeats 4000000 in
set_option maxRecDepth 100000 in
theorem c_H_lowestBits {G : gx_G} {σ : gs_S} {Q : Option Value → gx_Hp → Prop} (d : Nat) {i : Nat} {x : (Nat → Int32) × Nat × Nat} (hi : i < gs_cnt 1) (hl : (σ 1 i).2.1 1 = (if x.2.1 = 9 then -1 else nI x.2.1)) (hb : x.2.1 ≤ 2 ∨ x.2.1 = 9) (v : Int32) (h9 : ¬ x.2.1 = 9) (hq : Q (some (.int (lb x.2.1 v))) (hp G σ)) : gx_K G yX1_lowestBits mX1_lowestBits d 0 0 [.ref (gs_a G 1 i 0), .int v] (hp G σ) Q := by
  refine gx_K.of' (lv := [(0, _), (1, _)]) (by decide) rfl (by decide) (Nat.le_of_ble_eq_true rfl) rfl ?_
  refine J_aload_n (i := 0) (n := 1) dX1_lowestBits_0 rfl rfl rfl ?_
  refine T_getO (k := 1) (n := 4) wk_X1 dX1_lowestBits_1 wf_X1_15 (by decide) (by first | assumption | decide) rfl rfl ?_
  rw [hl, if_neg h9]
  by_cases e_4_0 : nI x.2.1 = 0
  · rw [e_4_0]
    refine J_lookup (off := 28) (tgt := 32) dX1_lowestBits_4 (by decide) (by decide) (by decide) ?_
    refine J_iload_n (i := 1) (n := 33) dX1_lowestBits_32 rfl rfl rfl ?_
    refine J_i2b (n := 34) dX1_lowestBits_33 rfl ?_
    refine J_iret dX1_lowestBits_34 rfl (kN_i _) ?_
    rw [nI_k0 (by omega)] at e_4_0
    unfold lb at hq
    rw [if_pos e_4_0] at hq
    exact hq
  by_cases e_4_1 : nI x.2.1 = 1
  · rw [e_4_1]
    refine J_lookup (off := 31) (tgt := 35) dX1_lowestBits_4 (by decide) (by decide) (by decide) ?_
    refine J_iload_n (i := 1) (n := 36) dX1_lowestBits_35 rfl rfl rfl ?_
    refine J_i2s (n := 37) dX1_lowestBits_36 rfl ?_
    refine J_iret dX1_lowestBits_37 rfl (kN_i _) ?_
    rw [nI_k0 (by omega)] at e_4_0
    rw [nI_k1 (by omega)] at e_4_1
    unfold lb at hq
    rw [if_neg e_4_0, if_pos e_4_1] at hq
    exact hq
  refine J_lookup (off := 34) (tgt := 38) dX1_lowestBits_4 (by decide) (by refine (lv_osw e_4_0 rfl).trans ?_; refine (lv_osw e_4_1 rfl).trans ?_; rfl) (by decide) ?_
  refine J_iload_n (i := 1) (n := 39) dX1_lowestBits_38 rfl rfl rfl ?_
  refine J_iret dX1_lowestBits_39 rfl (kN_i _) ?_
  rw [nI_k0 (by omega)] at e_4_0
  rw [nI_k1 (by omega)] at e_4_1
  unfold lb at hq
  rw [if_neg e_4_0, if_neg e_4_1] at hq
  exact hq

set_option maxHeartbeats 4000000 in
set_option maxRecDepth 100000 in
theorem c_G_sheet {G : gx_G} {σ : gs_S} {Q : Option Value → gx_Hp → Prop} {S : pS} (d : Nat) (x l n : Int32) (hS : SOk S) (hc : cR σ S) (hq : ∀ τ, cR τ (sp_sheet S x l n).2 → τ 7 0 = σ 7 0 → Q (some (.int (sp_sheet S x l n).1)) (hp G τ)) : gx_K G yX6_sheet mX6_sheet (d + 12) 0 0 [.ref (gs_a G 6 0 0), .int x, .int l, .int n] (hp G σ) Q := by
  obtain ⟨hw, hs⟩ := hc.1
  have hO := hS.1.1
  have h4 : S.1.1.2.2 6 ≤ 4 := hO.2.2.2.2.1
  have h6 : S.1.1.2.2 7 ≤ 6 := hO.2.2.2.2.2.1
  have hm11 : S.1.1.2.2 8 ≤ 11 := hO.2.2.2.2.2.2.1
  have hn9 : S.1.1.2.2 9 ≤ 9999 := hO.2.2.2.2.2.2.2
  have hd9 : S.1.1.2.2 10 ≤ 999 := hS.1.2.2.1
  have e6 := hw.2.2.2.2 6 (by decide) (by decide)
  have e7 := hw.2.2.2.2 7 (by decide) (by decide)
  have e8 := hw.2.2.2.2 8 (by decide) (by decide)
  have e9 := hw.2.2.2.2 9 (by decide) (by decide)
  have e10 := hw.2.2.2.2 10 (by decide) (by decide)
  refine gx_K.of' (lv := [(0, _), (1, _), (2, _), (3, _)]) (by decide) rfl (by decide) (Nat.le_of_ble_eq_true rfl) rfl ?_
  refine J_iload_n (i := 1) (n := 1) dX6_sheet_0 rfl rfl rfl ?_
  refine J_callSr (n := 4) wS_X6_isSheet (c_isSheet (d + 10) x ⟨rfl, rfl⟩) dX6_sheet_1 wm_X6_229 wT_X6_isSheet rfl rfl (Nat.le_of_ble_eq_true rfl) rfl ?_
  refine J_if_eq (tgt := 21) (n := 7) dX6_sheet_4 (by decide) rfl (fun c_4 => ?_) (fun c_4 => ?_)
  · refine J_iconst (n := 22) dX6_sheet_21 kI_m1 rfl ?_
    refine J_iret dX6_sheet_22 rfl (kN_i _) ?_
    unfold sp_sheet at hq
    rw [if_neg (by
      first
      | (rw [nb_0] at c_4; rw [c_4, Bool.false_and]; decide)
      | (rw [nb_0] at c_12; rw [c_12, Bool.false_and, Bool.and_false]; decide)
      | (rw [decide_eq_false c_18, Bool.and_false, Bool.and_false]; decide))] at hq
    exact hq σ hc rfl
  · refine J_iload_n (i := 2) (n := 8) dX6_sheet_7 rfl rfl rfl ?_
    refine J_iconst (n := 9) dX6_sheet_8 kI_2 rfl ?_
    refine J_callSr (n := 12) wS_X6_isWithin (c_isWithin (d + 11) l 2 ⟨rfl, rfl⟩) dX6_sheet_9 wm_X6_51 wT_X6_isWithin rfl rfl (Nat.le_of_ble_eq_true rfl) rfl ?_
    refine J_if_eq (tgt := 21) (n := 15) dX6_sheet_12 (by decide) rfl (fun c_12 => ?_) (fun c_12 => ?_)
    · refine J_iconst (n := 22) dX6_sheet_21 kI_m1 rfl ?_
      refine J_iret dX6_sheet_22 rfl (kN_i _) ?_
      unfold sp_sheet at hq
      rw [if_neg (by
        first
        | (rw [nb_0] at c_4; rw [c_4, Bool.false_and]; decide)
        | (rw [nb_0] at c_12; rw [c_12, Bool.false_and, Bool.and_false]; decide)
        | (rw [decide_eq_false c_18, Bool.and_false, Bool.and_false]; decide))] at hq
      exact hq σ hc rfl
    · refine J_iload_n (i := 3) (n := 16) dX6_sheet_15 rfl rfl rfl ?_
      refine J_bipush (n := 18) dX6_sheet_16 kB_40 rfl ?_
      refine J_icmp_le (tgt := 23) (n := 21) dX6_sheet_18 (by decide) rfl (fun c_18 => ?_) (fun c_18 => ?_)
      · rw [nb_t] at c_4 c_12
        unfold sp_sheet at hq
        rw [if_pos (by rw [c_4, c_12, decide_eq_true c_18]; rfl)] at hq
        obtain ⟨k, hk3, rfl⟩ := ix_of c_4 (by decide)
        obtain ⟨l, hl2, rfl⟩ := ix_of c_12 (by decide)
        rw [nat_nI (by omega), nat_nI (by omega)] at hq
        have hk2 : k < gs_cnt 1 := by show k < 4; omega
        obtain ⟨hxc, hxl, hxz⟩ := hc.2.2.2.2 k (by omega)
        obtain ⟨hx40, hxb⟩ := hS.2.2.2 k (by omega)
        refine J_iload_n (i := 3) (n := 24) dX6_sheet_23 rfl rfl rfl ?_
        refine J_if_ge (tgt := 30) (n := 27) dX6_sheet_24 (by decide) rfl (fun c_24 => ?_) (fun c_24 => ?_)
        · rw [if_pos c_24] at hq
          obtain ⟨m, hm31, rfl⟩ := nI_of (Int32.not_lt.mpr c_24)
          rw [nI_leI (by omega) (by decide)] at c_18
          rw [nat_nI (by omega)] at hq
          refine J_aload_n (i := 0) (n := 31) dX6_sheet_30 rfl rfl rfl ?_
          refine T_getO (k := 6) (n := 34) wk_X6 dX6_sheet_31 wf_X6_45 (by decide) (by first | assumption | decide) rfl rfl ?_
          refine J_iload_n (i := 1) (n := 35) dX6_sheet_34 rfl rfl rfl ?_
          refine T_aald (k := 6) (t := 5) (N := 4) (n := 36) dX6_sheet_35 (by decide) rfl rfl (vp_in_nI (by omega) (by decide)) rfl rfl ?_
          rw [nI_clamp (by omega)]
          refine J_iload_n (i := 2) (n := 37) dX6_sheet_36 rfl rfl rfl ?_
          refine J_iload_n (i := 3) (n := 38) dX6_sheet_37 rfl rfl rfl ?_
          refine J_callVx (n := 41) wS_X1_makeNew (K_eta 1 k (c_H_makeNew (Q := fun r h => r = none ∧ ∃ w1 : gs_Ob, (∀ q, q < 40 → w1.1 0 q = nI 0) ∧ w1.2.1 1 = nI l ∧ w1.2.1 2 = nI m ∧ h = hp G (gs_set σ 1 k w1)) (d + 10) (nI l) (nI m) hk2 (fun w1 h1 h2 h3 => ⟨rfl, w1, h1, h2, h3, rfl⟩))) dX6_sheet_38 wm_X6_232 ⟨wM_X1_makeNew, wV_X1_makeNew⟩ rfl (T_recv (by decide) (by first | assumption | decide)) rfl rfl (Nat.le_of_ble_eq_true rfl) rfl (fun r h1 hq1 => ?_)
          obtain ⟨rfl, w1, hw1, hw2, hw3, rfl⟩ := hq1
          refine J_iconst (n := 42) dX6_sheet_41 kI_1 rfl ?_
          refine J_iret dX6_sheet_42 rfl (kN_i _) ?_
          exact hq _ (hc.sheet (x := (fun _ => nI 0, l, m)) ⟨hw1, by rw [hw2, if_neg (show ¬ l = 9 by omega)], hw3⟩) (gs_neC (by decide))
        · refine J_bipush (n := 29) dX6_sheet_27 kB_m14 rfl ?_
          refine J_iret dX6_sheet_29 rfl (kN_i _) ?_
          rw [if_neg c_24] at hq
          exact hq σ hc rfl
      · refine J_iconst (n := 22) dX6_sheet_21 kI_m1 rfl ?_
        refine J_iret dX6_sheet_22 rfl (kN_i _) ?_
        unfold sp_sheet at hq
        rw [if_neg (by
          first
          | (rw [nb_0] at c_4; rw [c_4, Bool.false_and]; decide)
          | (rw [nb_0] at c_12; rw [c_12, Bool.false_and, Bool.and_false]; decide)
          | (rw [decide_eq_false c_18, Bool.and_false, Bool.and_false]; decide))] at hq
        exact hq σ hc rfl

set_option maxHeartbeats 4000000 in
set_option maxRecDepth 100000 in
theorem c_G_lay {G : gx_G} {σ : gs_S} {Q : Option Value → gx_Hp → Prop} {S : pS} (d : Nat) (x i v : Int32) (hS : SOk S) (hc : cR σ S) (hq : ∀ τ, cR τ (sp_lay S x i v).2 → τ 7 0 = σ 7 0 → Q (some (.int (sp_lay S x i v).1)) (hp G τ)) : gx_K G yX6_lay mX6_lay (d + 12) 0 0 [.ref (gs_a G 6 0 0), .int x, .int i, .int v] (hp G σ) Q := by
  obtain ⟨hw, hs⟩ := hc.1
  have hO := hS.1.1
  have h4 : S.1.1.2.2 6 ≤ 4 := hO.2.2.2.2.1
  have h6 : S.1.1.2.2 7 ≤ 6 := hO.2.2.2.2.2.1
  have hm11 : S.1.1.2.2 8 ≤ 11 := hO.2.2.2.2.2.2.1
  have hn9 : S.1.1.2.2 9 ≤ 9999 := hO.2.2.2.2.2.2.2
  have hd9 : S.1.1.2.2 10 ≤ 999 := hS.1.2.2.1
  have e6 := hw.2.2.2.2 6 (by decide) (by decide)
  have e7 := hw.2.2.2.2 7 (by decide) (by decide)
  have e8 := hw.2.2.2.2 8 (by decide) (by decide)
  have e9 := hw.2.2.2.2 9 (by decide) (by decide)
  have e10 := hw.2.2.2.2 10 (by decide) (by decide)
  refine gx_K.of' (lv := [(0, _), (1, _), (2, _), (3, _)]) (by decide) rfl (by decide) (Nat.le_of_ble_eq_true rfl) rfl ?_
  refine J_iload_n (i := 1) (n := 1) dX6_lay_0 rfl rfl rfl ?_
  refine J_callSr (n := 4) wS_X6_isSheet (c_isSheet (d + 10) x ⟨rfl, rfl⟩) dX6_lay_1 wm_X6_229 wT_X6_isSheet rfl rfl (Nat.le_of_ble_eq_true rfl) rfl ?_
  refine J_if_ne (tgt := 9) (n := 7) dX6_lay_4 (by decide) rfl (fun c_4 => ?_) (fun c_4 => ?_)
  · rw [nb_t] at c_4
    unfold sp_lay at hq
    rw [if_pos c_4] at hq
    obtain ⟨k, hk3, rfl⟩ := ix_of c_4 (by decide)
    rw [nat_nI (by omega)] at hq
    have hk2 : k < gs_cnt 1 := by show k < 4; omega
    obtain ⟨hxc, hxl, hxz⟩ := hc.2.2.2.2 k (by omega)
    obtain ⟨hx40, hxb⟩ := hS.2.2.2 k (by omega)
    have hfa : fa (S.2.2.2.2.2 k) i ≤ 2 := by unfold fa; split; · decide
                                              · split <;> decide
    refine J_aload_n (i := 0) (n := 10) dX6_lay_9 rfl rfl rfl ?_
    refine T_getO (k := 6) (n := 13) wk_X6 dX6_lay_10 wf_X6_45 (by decide) (by first | assumption | decide) rfl rfl ?_
    refine J_iload_n (i := 1) (n := 14) dX6_lay_13 rfl rfl rfl ?_
    refine T_aald (k := 6) (t := 5) (N := 4) (n := 15) dX6_lay_14 (by decide) rfl rfl (vp_in_nI (by omega) (by decide)) rfl rfl ?_
    rw [nI_clamp (by omega)]
    refine J_iload_n (i := 2) (n := 16) dX6_lay_15 rfl rfl rfl ?_
    refine J_callVr (n := 19) wS_X1_faultAt (c_H_faultAt (d + 10) hk2 hxl hxb hxz hx40 i ⟨rfl, rfl⟩) dX6_lay_16 wm_X6_236 ⟨wM_X1_faultAt, wV_X1_faultAt⟩ rfl (T_recv (by decide) (by first | assumption | decide)) rfl rfl (Nat.le_of_ble_eq_true rfl) rfl ?_
    refine J_istore (i := 4) (n := 21) (lv' := [(0, _), (1, _), (2, _), (3, _), (4, _)]) dX6_lay_19 (by decide) rfl rfl ?_
    refine J_iload (i := 4) (n := 23) dX6_lay_21 rfl rfl ?_
    refine J_if_eq (tgt := 32) (n := 26) dX6_lay_23 (by decide) rfl (fun c_23 => ?_) (fun c_23 => ?_)
    · rw [nI_k0 (by omega)] at c_23
      rw [if_pos c_23] at hq
      have hn9 : ¬ (S.2.2.2.2.2 k).2.1 = 9 := by
        intro q
        unfold fa at c_23
        rw [if_pos q] at c_23
        cases c_23
      have hin : (!decide ((S.2.2.2.2.2 k).2.2 = 0) && ix_in i ((S.2.2.2.2.2 k).2.2 - 1)) = true := by
        unfold fa at c_23
        rw [if_neg hn9] at c_23
        split at c_23
        · assumption
        · cases c_23
      obtain ⟨j, hj, rfl⟩ := ix1_of hin (by omega)
      rw [nat_nI (by omega)] at hq
      refine J_aload_n (i := 0) (n := 33) dX6_lay_32 rfl rfl rfl ?_
      refine T_getO (k := 6) (n := 36) wk_X6 dX6_lay_33 wf_X6_45 (by decide) (by first | assumption | decide) rfl rfl ?_
      refine J_iload_n (i := 1) (n := 37) dX6_lay_36 rfl rfl rfl ?_
      refine T_aald (k := 6) (t := 5) (N := 4) (n := 38) dX6_lay_37 (by decide) rfl rfl (vp_in_nI (by omega) (by decide)) rfl rfl ?_
      rw [nI_clamp (by omega)]
      refine T_getO (k := 0) (n := 41) wk_X1 dX6_lay_38 wf_X6_239 (by decide) (by first | assumption | decide) rfl rfl ?_
      refine J_iload_n (i := 2) (n := 42) dX6_lay_41 rfl rfl rfl ?_
      refine J_aload_n (i := 0) (n := 43) dX6_lay_42 rfl rfl rfl ?_
      refine T_getO (k := 6) (n := 46) wk_X6 dX6_lay_43 wf_X6_45 (by decide) (by first | assumption | decide) rfl rfl ?_
      refine J_iload_n (i := 1) (n := 47) dX6_lay_46 rfl rfl rfl ?_
      refine T_aald (k := 6) (t := 5) (N := 4) (n := 48) dX6_lay_47 (by decide) rfl rfl (vp_in_nI (by omega) (by decide)) rfl rfl ?_
      rw [nI_clamp (by omega)]
      refine J_iload_n (i := 3) (n := 49) dX6_lay_48 rfl rfl rfl ?_
      refine J_callVr (n := 52) wS_X1_lowestBits (c_H_lowestBits (d + 11) hk2 hxl hxb v hn9 ⟨rfl, rfl⟩) dX6_lay_49 wm_X6_242 ⟨wM_X1_lowestBits, wV_X1_lowestBits⟩ rfl (T_recv (by decide) (by first | assumption | decide)) rfl rfl (Nat.le_of_ble_eq_true rfl) rfl ?_
      refine J_eta 1 k ?_
      refine T_iast (c := 1) (k := 0) (N := 40) (n := 53) dX6_lay_52 (by decide) (by first | assumption | decide) (fun _ => rfl) (vp_in_nI (by omega) (by decide)) rfl ?_
      rw [nI_clamp (by omega)]
      refine J_iconst (n := 54) dX6_lay_53 kI_1 rfl ?_
      refine J_iret dX6_lay_54 rfl (kN_i _) ?_
      refine hq _ (hc.sheet (x := (upd (S.2.2.2.2.2 k).1 j (lb (S.2.2.2.2.2 k).2.1 v), (S.2.2.2.2.2 k).2)) ⟨fun q hq0 => ?_, hxl, hxz⟩) (gs_neC (by decide))
      show (gs_w (σ 1 k) 0 (upd ((σ 1 k).1 0) j (lb (S.2.2.2.2.2 k).2.1 v))).1 0 q = upd (S.2.2.2.2.2 k).1 j (lb (S.2.2.2.2.2 k).2.1 v) q
      simp only [gs_w, va_up, if_true]
      unfold upd
      split
      · rfl
      · exact hxc q hq0
    · rw [nI_k0 (by omega)] at c_23
      refine J_bipush (n := 28) dX6_lay_26 kB_m10 rfl ?_
      refine J_iload (i := 4) (n := 30) dX6_lay_28 rfl rfl ?_
      refine J_isub (n := 31) dX6_lay_30 rfl ?_
      refine J_iret dX6_lay_31 rfl (kN_i _) ?_
      rw [if_neg c_23] at hq
      exact hq σ hc rfl
  · refine J_iconst (n := 8) dX6_lay_7 kI_m1 rfl ?_
    refine J_iret dX6_lay_8 rfl (kN_i _) ?_
    rw [nb_0] at c_4
    unfold sp_lay at hq
    rw [c_4, if_neg (by decide)] at hq
    exact hq σ hc rfl

set_option maxHeartbeats 4000000 in
set_option maxRecDepth 100000 in
theorem c_sum_3 {G : gx_G} {σ : gs_S} {Q : Option Value → gx_Hp → Prop} {f : Nat → Nat} (d : Nat) {n : Nat} (hn : n ≤ 4) (hf : ∀ j, j < n → (σ 5 0).1 3 j = nI (f j)) (hq : Q (some (.int (nI (su f n)))) (hp G σ)) : gx_K G yX6_sumOf mX6_sumOf d 0 0 [.ref (gs_a G 5 0 4), .int (nI n)] (hp G σ) Q := by
  have loop : ∀ u e, n - e < u → e ≤ n → gx_J G mX6_sumOf d 0 0 Q 4 [(0, .ref (gs_a G 5 0 4)), (1, .int (nI n)), (2, .int (nI (su f e))), (3, .int (nI e))] [] (hp G σ) := by
    intro u
    induction u with
    | zero => intros; exact absurd (by assumption) (Nat.not_lt_zero _)
    | succ u ih =>
      intro e hu he
      refine J_iload_n (i := 3) (n := 5) dX6_sumOf_4 rfl rfl rfl ?_
      refine J_iload_n (i := 1) (n := 6) dX6_sumOf_5 rfl rfl rfl ?_
      refine J_icmp_ge (tgt := 27) (n := 9) dX6_sumOf_6 (by decide) rfl (fun c_6 => ?_) (fun c_6 => ?_)
      · refine J_iload_n (i := 2) (n := 28) dX6_sumOf_27 rfl rfl rfl ?_
        refine J_iret dX6_sumOf_28 rfl (kN_i _) ?_
        first
        | (rw [nI_leI (by omega) (by omega)] at c_6
           have ee : n = e := by omega
           subst ee
           exact hq)
        | (rw [show (4 : Int32) = nI 4 from rfl, nI_leI (by omega) (by omega)] at c_12
           exact absurd c_12 (by omega))
      · rw [nI_leI (by omega) (by omega)] at c_6
        refine J_iload_n (i := 3) (n := 10) dX6_sumOf_9 rfl rfl rfl ?_
        refine J_aload_n (i := 0) (n := 11) dX6_sumOf_10 rfl rfl rfl ?_
        refine T_alen (c := 5) (k := 3) (t := 0) (v := 4) (n := 12) dX6_sumOf_11 (by decide) (by first | assumption | decide) rfl rfl rfl rfl ?_
        refine J_icmp_ge (tgt := 27) (n := 15) dX6_sumOf_12 (by decide) rfl (fun c_12 => ?_) (fun c_12 => ?_)
        · refine J_iload_n (i := 2) (n := 28) dX6_sumOf_27 rfl rfl rfl ?_
          refine J_iret dX6_sumOf_28 rfl (kN_i _) ?_
          first
          | (rw [nI_leI (by omega) (by omega)] at c_6
             have ee : n = e := by omega
             subst ee
             exact hq)
          | (rw [show (4 : Int32) = nI 4 from rfl, nI_leI (by omega) (by omega)] at c_12
             exact absurd c_12 (by omega))
        · rw [show (4 : Int32) = nI 4 from rfl, nI_leI (by omega) (by omega)] at c_12
          refine J_iload_n (i := 2) (n := 16) dX6_sumOf_15 rfl rfl rfl ?_
          refine J_aload_n (i := 0) (n := 17) dX6_sumOf_16 rfl rfl rfl ?_
          refine J_iload_n (i := 3) (n := 18) dX6_sumOf_17 rfl rfl rfl ?_
          refine T_ialdO (c := 5) (k := 3) (N := 4) (n := 19) dX6_sumOf_18 (by decide) (by first | assumption | decide) rfl (vp_in_nI (by omega) (by decide)) rfl ?_
          rw [nI_clamp (by omega), hf e (by omega)]
          refine J_iadd (n := 20) dX6_sumOf_19 rfl ?_
          rw [nI_add]
          refine J_istore_n (i := 2) (n := 21) (lv' := [(0, _), (1, _), (2, _), (3, _)]) dX6_sumOf_20 rfl (by decide) rfl rfl ?_
          refine J_inc (i := 3) (n := 24) (lv' := [(0, _), (1, _), (2, _), (3, _)]) dX6_sumOf_21 rfl (by decide) rfl rfl ?_
          refine J_goto (tgt := 4) dX6_sumOf_24 (by decide) ?_
          exact ih (e + 1) (by omega) (by omega)
  refine gx_K.of' (lv := [(0, _), (1, _)]) (by decide) rfl (by decide) (Nat.le_of_ble_eq_true rfl) rfl ?_
  refine J_iconst (n := 1) dX6_sumOf_0 kI_0 rfl ?_
  refine J_istore_n (i := 2) (n := 2) (lv' := [(0, _), (1, _), (2, _)]) dX6_sumOf_1 rfl (by decide) rfl rfl ?_
  refine J_iconst (n := 3) dX6_sumOf_2 kI_0 rfl ?_
  refine J_istore_n (i := 3) (n := 4) (lv' := [(0, _), (1, _), (2, _), (3, _)]) dX6_sumOf_3 rfl (by decide) rfl rfl ?_
  exact loop (n + 1) 0 (by omega) (by omega)

set_option maxHeartbeats 4000000 in
set_option maxRecDepth 100000 in
theorem c_sum_0 {G : gx_G} {σ : gs_S} {Q : Option Value → gx_Hp → Prop} {f : Nat → Nat} (d : Nat) {n : Nat} (hn : n ≤ 12) (hf : ∀ j, j < n → (σ 5 0).1 0 j = nI (f j)) (hq : Q (some (.int (nI (su f n)))) (hp G σ)) : gx_K G yX6_sumOf mX6_sumOf d 0 0 [.ref (gs_a G 5 0 1), .int (nI n)] (hp G σ) Q := by
  have loop : ∀ u e, n - e < u → e ≤ n → gx_J G mX6_sumOf d 0 0 Q 4 [(0, .ref (gs_a G 5 0 1)), (1, .int (nI n)), (2, .int (nI (su f e))), (3, .int (nI e))] [] (hp G σ) := by
    intro u
    induction u with
    | zero => intros; exact absurd (by assumption) (Nat.not_lt_zero _)
    | succ u ih =>
      intro e hu he
      refine J_iload_n (i := 3) (n := 5) dX6_sumOf_4 rfl rfl rfl ?_
      refine J_iload_n (i := 1) (n := 6) dX6_sumOf_5 rfl rfl rfl ?_
      refine J_icmp_ge (tgt := 27) (n := 9) dX6_sumOf_6 (by decide) rfl (fun c_6 => ?_) (fun c_6 => ?_)
      · refine J_iload_n (i := 2) (n := 28) dX6_sumOf_27 rfl rfl rfl ?_
        refine J_iret dX6_sumOf_28 rfl (kN_i _) ?_
        first
        | (rw [nI_leI (by omega) (by omega)] at c_6
           have ee : n = e := by omega
           subst ee
           exact hq)
        | (rw [show (12 : Int32) = nI 12 from rfl, nI_leI (by omega) (by omega)] at c_12
           exact absurd c_12 (by omega))
      · rw [nI_leI (by omega) (by omega)] at c_6
        refine J_iload_n (i := 3) (n := 10) dX6_sumOf_9 rfl rfl rfl ?_
        refine J_aload_n (i := 0) (n := 11) dX6_sumOf_10 rfl rfl rfl ?_
        refine T_alen (c := 5) (k := 0) (t := 0) (v := 12) (n := 12) dX6_sumOf_11 (by decide) (by first | assumption | decide) rfl rfl rfl rfl ?_
        refine J_icmp_ge (tgt := 27) (n := 15) dX6_sumOf_12 (by decide) rfl (fun c_12 => ?_) (fun c_12 => ?_)
        · refine J_iload_n (i := 2) (n := 28) dX6_sumOf_27 rfl rfl rfl ?_
          refine J_iret dX6_sumOf_28 rfl (kN_i _) ?_
          first
          | (rw [nI_leI (by omega) (by omega)] at c_6
             have ee : n = e := by omega
             subst ee
             exact hq)
          | (rw [show (12 : Int32) = nI 12 from rfl, nI_leI (by omega) (by omega)] at c_12
             exact absurd c_12 (by omega))
        · rw [show (12 : Int32) = nI 12 from rfl, nI_leI (by omega) (by omega)] at c_12
          refine J_iload_n (i := 2) (n := 16) dX6_sumOf_15 rfl rfl rfl ?_
          refine J_aload_n (i := 0) (n := 17) dX6_sumOf_16 rfl rfl rfl ?_
          refine J_iload_n (i := 3) (n := 18) dX6_sumOf_17 rfl rfl rfl ?_
          refine T_ialdO (c := 5) (k := 0) (N := 12) (n := 19) dX6_sumOf_18 (by decide) (by first | assumption | decide) rfl (vp_in_nI (by omega) (by decide)) rfl ?_
          rw [nI_clamp (by omega), hf e (by omega)]
          refine J_iadd (n := 20) dX6_sumOf_19 rfl ?_
          rw [nI_add]
          refine J_istore_n (i := 2) (n := 21) (lv' := [(0, _), (1, _), (2, _), (3, _)]) dX6_sumOf_20 rfl (by decide) rfl rfl ?_
          refine J_inc (i := 3) (n := 24) (lv' := [(0, _), (1, _), (2, _), (3, _)]) dX6_sumOf_21 rfl (by decide) rfl rfl ?_
          refine J_goto (tgt := 4) dX6_sumOf_24 (by decide) ?_
          exact ih (e + 1) (by omega) (by omega)
  refine gx_K.of' (lv := [(0, _), (1, _)]) (by decide) rfl (by decide) (Nat.le_of_ble_eq_true rfl) rfl ?_
  refine J_iconst (n := 1) dX6_sumOf_0 kI_0 rfl ?_
  refine J_istore_n (i := 2) (n := 2) (lv' := [(0, _), (1, _), (2, _)]) dX6_sumOf_1 rfl (by decide) rfl rfl ?_
  refine J_iconst (n := 3) dX6_sumOf_2 kI_0 rfl ?_
  refine J_istore_n (i := 3) (n := 4) (lv' := [(0, _), (1, _), (2, _), (3, _)]) dX6_sumOf_3 rfl (by decide) rfl rfl ?_
  exact loop (n + 1) 0 (by omega) (by omega)

set_option maxHeartbeats 4000000 in
set_option maxRecDepth 100000 in
theorem c_G_imagesKept {G : gx_G} {σ : gs_S} {Q : Option Value → gx_Hp → Prop} {f : Nat → Bool} (d : Nat) (hf : ∀ j, j < 2 → (σ 0 j).2.1 2 = nI (f j).toNat) (hq : Q (some (.int (nI (cu f 2)))) (hp G σ)) : gx_K G yX6_imagesKept mX6_imagesKept d 0 0 [.ref (gs_a G 6 0 0)] (hp G σ) Q := by
  have loop : ∀ u e, 2 - e < u → e ≤ 2 → gx_J G mX6_imagesKept d 0 0 Q 4 [(0, .ref (gs_a G 6 0 0)), (1, .int (nI (cu f e))), (2, .int (nI e))] [] (hp G σ) := by
    intro u
    induction u with
    | zero => intros; exact absurd (by assumption) (Nat.not_lt_zero _)
    | succ u ih =>
      intro e hu he
      have hce := cu_le f e
      refine J_iload_n (i := 2) (n := 5) dX6_imagesKept_4 rfl rfl rfl ?_
      refine J_aload_n (i := 0) (n := 6) dX6_imagesKept_5 rfl rfl rfl ?_
      refine T_getO (k := 5) (n := 9) wk_X6 dX6_imagesKept_6 wf_X6_39 (by decide) (by first | assumption | decide) rfl rfl ?_
      refine T_alen (c := 6) (k := 5) (t := 4) (v := 2) (n := 10) dX6_imagesKept_9 (by decide) (by first | assumption | decide) rfl rfl rfl rfl ?_
      refine J_icmp_ge (tgt := 34) (n := 13) dX6_imagesKept_10 (by decide) rfl (fun c_10 => ?_) (fun c_10 => ?_)
      · refine J_iload_n (i := 1) (n := 35) dX6_imagesKept_34 rfl rfl rfl ?_
        refine J_iret dX6_imagesKept_35 rfl (kN_i _) ?_
        rw [show (2 : Int32) = nI 2 from rfl, nI_leI (by omega) (by omega)] at c_10
        have ee : e = 2 := by omega
        subst ee
        exact hq
      · rw [show (2 : Int32) = nI 2 from rfl, nI_leI (by omega) (by omega)] at c_10
        have hk2 : e < gs_cnt 0 := by show e < 2; omega
        refine J_aload_n (i := 0) (n := 14) dX6_imagesKept_13 rfl rfl rfl ?_
        refine T_getO (k := 5) (n := 17) wk_X6 dX6_imagesKept_14 wf_X6_39 (by decide) (by first | assumption | decide) rfl rfl ?_
        refine J_iload_n (i := 2) (n := 18) dX6_imagesKept_17 rfl rfl rfl ?_
        refine T_aald (k := 5) (t := 4) (N := 2) (n := 19) dX6_imagesKept_18 (by decide) rfl rfl (vp_in_nI (by omega) (by decide)) rfl rfl ?_
        rw [nI_clamp (by omega)]
        refine T_getO (k := 2) (n := 22) wk_X0 dX6_imagesKept_19 wf_X6_92 (by decide) (by first | assumption | decide) rfl rfl ?_
        rw [hf e (by omega)]
        refine J_if_eq (tgt := 28) (n := 25) dX6_imagesKept_22 (by decide) rfl (fun c_22 => ?_) (fun c_22 => ?_)
        · refine J_inc (i := 2) (n := 31) (lv' := [(0, _), (1, _), (2, _)]) dX6_imagesKept_28 rfl (by decide) rfl rfl ?_
          refine J_goto (tgt := 4) dX6_imagesKept_31 (by decide) ?_
          first
          | (have h0 := ih (e + 1) (by omega) (by omega)
             rw [show cu f (e + 1) = cu f e from by show cu f e + (f e).toNat = _; rw [(nb_0 _).mp c_22]; rfl] at h0
             exact h0)
          | (have h0 := ih (e + 1) (by omega) (by omega)
             rw [show cu f (e + 1) = cu f e + 1 from by show cu f e + (f e).toNat = _; rw [(nb_t _).mp c_22]; rfl] at h0
             exact h0)
        · refine J_inc (i := 1) (n := 28) (lv' := [(0, _), (1, _), (2, _)]) dX6_imagesKept_25 rfl (by decide) rfl rfl ?_
          refine J_inc (i := 2) (n := 31) (lv' := [(0, _), (1, _), (2, _)]) dX6_imagesKept_28 rfl (by decide) rfl rfl ?_
          refine J_goto (tgt := 4) dX6_imagesKept_31 (by decide) ?_
          first
          | (have h0 := ih (e + 1) (by omega) (by omega)
             rw [show cu f (e + 1) = cu f e from by show cu f e + (f e).toNat = _; rw [(nb_0 _).mp c_22]; rfl] at h0
             exact h0)
          | (have h0 := ih (e + 1) (by omega) (by omega)
             rw [show cu f (e + 1) = cu f e + 1 from by show cu f e + (f e).toNat = _; rw [(nb_t _).mp c_22]; rfl] at h0
             exact h0)
  refine gx_K.of' (lv := [(0, _)]) (by decide) rfl (by decide) (Nat.le_of_ble_eq_true rfl) rfl ?_
  refine J_iconst (n := 1) dX6_imagesKept_0 kI_0 rfl ?_
  refine J_istore_n (i := 1) (n := 2) (lv' := [(0, _), (1, _)]) dX6_imagesKept_1 rfl (by decide) rfl rfl ?_
  refine J_iconst (n := 3) dX6_imagesKept_2 kI_0 rfl ?_
  refine J_istore_n (i := 2) (n := 4) (lv' := [(0, _), (1, _), (2, _)]) dX6_imagesKept_3 rfl (by decide) rfl rfl ?_
  exact loop 3 0 (by omega) (by omega)

set_option maxHeartbeats 4000000 in
set_option maxRecDepth 100000 in
theorem c_G_count {G : gx_G} {σ : gs_S} {Q : Option Value → gx_Hp → Prop} {S : pS} (d : Nat) (w : Int32) (hS : SOk S) (hc : cR σ S) (hq : ∀ τ, cR τ S → τ 7 0 = σ 7 0 → Q (some (.int (sp_count S w))) (hp G τ)) : gx_K G yX6_count mX6_count (d + 12) 0 0 [.ref (gs_a G 6 0 0), .int w] (hp G σ) Q := by
  obtain ⟨hw, hs⟩ := hc.1
  have hO := hS.1.1
  have h4 : S.1.1.2.2 6 ≤ 4 := hO.2.2.2.2.1
  have h6 : S.1.1.2.2 7 ≤ 6 := hO.2.2.2.2.2.1
  have hm11 : S.1.1.2.2 8 ≤ 11 := hO.2.2.2.2.2.2.1
  have hn9 : S.1.1.2.2 9 ≤ 9999 := hO.2.2.2.2.2.2.2
  have hd9 : S.1.1.2.2 10 ≤ 999 := hS.1.2.2.1
  have e6 := hw.2.2.2.2 6 (by decide) (by decide)
  have e7 := hw.2.2.2.2 7 (by decide) (by decide)
  have e8 := hw.2.2.2.2 8 (by decide) (by decide)
  have e9 := hw.2.2.2.2 9 (by decide) (by decide)
  have e10 := hw.2.2.2.2 10 (by decide) (by decide)
  obtain ⟨hxc, hxl, hxz⟩ := hc.2.2.2.2 0 (by decide)
  obtain ⟨hx40, hxb⟩ := hS.2.2.2 0 (by decide)
  refine gx_K.of' (lv := [(0, _), (1, _)]) (by decide) rfl (by decide) (Nat.le_of_ble_eq_true rfl) rfl ?_
  refine J_iload_n (i := 1) (n := 1) dX6_count_0 rfl rfl rfl ?_
  by_cases e_1_0 : w = 0
  · rw [e_1_0]
    refine J_tableIn (off := 39) (tgt := 40) dX6_count_1 (by decide) (by decide) (by decide) (by decide) ?_
    refine J_aload_n (i := 0) (n := 41) dX6_count_40 rfl rfl rfl ?_
    refine T_getO (k := 1) (n := 44) wk_X6 dX6_count_41 wf_X6_19 (by decide) (by first | assumption | decide) rfl rfl ?_
    refine T_getO (k := 3) (n := 47) wk_X2 dX6_count_44 wf_X6_89 (by decide) (by first | assumption | decide) rfl rfl ?_
    refine J_iret dX6_count_47 rfl (kN_i _) ?_
    unfold sp_count at hq
    rw [if_pos e_1_0] at hq
    rw [hs.2]
    exact hq σ hc rfl
  by_cases e_1_1 : w = 1
  · rw [e_1_1]
    refine J_tableIn (off := 47) (tgt := 48) dX6_count_1 (by decide) (by decide) (by decide) (by decide) ?_
    refine J_aload_n (i := 0) (n := 49) dX6_count_48 rfl rfl rfl ?_
    refine J_callVr (n := 52) wS_X6_imagesKept (c_G_imagesKept (d + 11) (fun j hj => (hc.2.1 j hj).1) ⟨rfl, rfl⟩) dX6_count_49 wm_X6_251 ⟨wM_X6_imagesKept, wV_X6_imagesKept⟩ rfl (T_recv (by decide) (by first | assumption | decide)) rfl rfl (Nat.le_of_ble_eq_true rfl) rfl ?_
    refine J_iret dX6_count_52 rfl (kN_i _) ?_
    unfold sp_count at hq
    rw [if_neg e_1_0, if_pos e_1_1] at hq
    exact hq σ hc rfl
  by_cases e_1_2 : w = 2
  · rw [e_1_2]
    refine J_tableIn (off := 52) (tgt := 53) dX6_count_1 (by decide) (by decide) (by decide) (by decide) ?_
    refine J_aload_n (i := 0) (n := 54) dX6_count_53 rfl rfl rfl ?_
    refine T_getO (k := 4) (n := 57) wk_X6 dX6_count_54 wf_X6_33 (by decide) (by first | assumption | decide) rfl rfl ?_
    refine T_getO (k := 0) (n := 60) wk_X4 dX6_count_57 wf_X6_55 (by decide) (by first | assumption | decide) rfl rfl ?_
    refine T_getO (k := 1) (n := 63) wk_X3 dX6_count_60 wf_X6_59 (by decide) (by first | assumption | decide) rfl rfl ?_
    refine J_iret dX6_count_63 rfl (kN_i _) ?_
    unfold sp_count at hq
    rw [if_neg e_1_0, if_neg e_1_1, if_pos e_1_2] at hq
    rw [hc.2.2.1.2]
    exact hq σ hc rfl
  by_cases e_1_3 : w = 3
  · rw [e_1_3]
    refine J_tableIn (off := 63) (tgt := 64) dX6_count_1 (by decide) (by decide) (by decide) (by decide) ?_
    refine J_aload_n (i := 0) (n := 65) dX6_count_64 rfl rfl rfl ?_
    refine T_getO (k := 6) (n := 68) wk_X6 dX6_count_65 wf_X6_45 (by decide) (by first | assumption | decide) rfl rfl ?_
    refine J_iconst (n := 69) dX6_count_68 kI_0 rfl ?_
    refine T_aald (k := 6) (t := 5) (N := 4) (n := 70) dX6_count_69 (by decide) rfl rfl (vp_in_nI (by decide) (by decide)) rfl rfl ?_
    rw [nI_clamp (by decide)]
    refine J_callVr (n := 73) wS_X1_isNothing (c_H_isNothing (d + 11) (by decide) hxl hxb ⟨rfl, rfl⟩) dX6_count_70 wm_X6_254 ⟨wM_X1_isNothing, wV_X1_isNothing⟩ rfl (T_recv (by decide) (by first | assumption | decide)) rfl rfl (Nat.le_of_ble_eq_true rfl) rfl ?_
    refine J_if_eq (tgt := 81) (n := 76) dX6_count_73 (by decide) rfl (fun c_73 => ?_) (fun c_73 => ?_)
    · refine J_aload_n (i := 0) (n := 82) dX6_count_81 rfl rfl rfl ?_
      refine T_getO (k := 6) (n := 85) wk_X6 dX6_count_82 wf_X6_45 (by decide) (by first | assumption | decide) rfl rfl ?_
      refine J_iconst (n := 86) dX6_count_85 kI_0 rfl ?_
      refine T_aald (k := 6) (t := 5) (N := 4) (n := 87) dX6_count_86 (by decide) rfl rfl (vp_in_nI (by decide) (by decide)) rfl rfl ?_
      rw [nI_clamp (by decide)]
      refine T_getO (k := 2) (n := 90) wk_X1 dX6_count_87 wf_X6_257 (by decide) (by first | assumption | decide) rfl rfl ?_
      refine J_iret dX6_count_90 rfl (kN_i _) ?_
      unfold sp_count at hq
      rw [if_neg e_1_0, if_neg e_1_1, if_neg e_1_2, if_pos e_1_3] at hq
      first
      | (rw [nb_t, decide_eq_true_eq] at c_73; rw [if_pos c_73] at hq; exact hq σ hc rfl)
      | (rw [nb_0, decide_eq_false_iff_not] at c_73; rw [if_neg c_73] at hq; rw [hxz]; exact hq σ hc rfl)
    · refine J_bipush (n := 78) dX6_count_76 kB_m4 rfl ?_
      refine J_goto (tgt := 90) dX6_count_78 (by decide) ?_
      refine J_iret dX6_count_90 rfl (kN_i _) ?_
      unfold sp_count at hq
      rw [if_neg e_1_0, if_neg e_1_1, if_neg e_1_2, if_pos e_1_3] at hq
      first
      | (rw [nb_t, decide_eq_true_eq] at c_73; rw [if_pos c_73] at hq; exact hq σ hc rfl)
      | (rw [nb_0, decide_eq_false_iff_not] at c_73; rw [if_neg c_73] at hq; rw [hxz]; exact hq σ hc rfl)
  by_cases e_1_4 : w = 4
  · rw [e_1_4]
    refine J_tableIn (off := 90) (tgt := 91) dX6_count_1 (by decide) (by decide) (by decide) (by decide) ?_
    refine J_aload_n (i := 0) (n := 92) dX6_count_91 rfl rfl rfl ?_
    refine T_getO (k := 0) (n := 95) wk_X6 dX6_count_92 wf_X6_10 (by decide) (by first | assumption | decide) rfl rfl ?_
    refine T_getO (k := 3) (n := 98) wk_X5 dX6_count_95 wf_X6_176 (by decide) (by first | assumption | decide) rfl rfl ?_
    refine J_aload_n (i := 0) (n := 99) dX6_count_98 rfl rfl rfl ?_
    refine T_getO (k := 0) (n := 102) wk_X6 dX6_count_99 wf_X6_10 (by decide) (by first | assumption | decide) rfl rfl ?_
    refine T_getO (k := 6) (n := 105) wk_X5 dX6_count_102 wf_X6_99 (by decide) (by first | assumption | decide) rfl rfl ?_
    rw [e6]
    refine J_callSr (n := 108) wS_X6_sumOf (c_sum_3 (d + 11) (n := S.1.1.2.2 6) (f := S.1.1.1 3) h4 (fun j hj => (hw.2.1 j hj).2.2) ⟨rfl, rfl⟩) dX6_count_105 wm_X6_260 wT_X6_sumOf rfl rfl (Nat.le_of_ble_eq_true rfl) rfl ?_
    refine J_iret dX6_count_108 rfl (kN_i _) ?_
    unfold sp_count at hq
    rw [if_neg e_1_0, if_neg e_1_1, if_neg e_1_2, if_neg e_1_3, if_pos e_1_4] at hq
    exact hq σ hc rfl
  by_cases e_1_5 : w = 5
  · rw [e_1_5]
    refine J_tableIn (off := 108) (tgt := 109) dX6_count_1 (by decide) (by decide) (by decide) (by decide) ?_
    refine J_aload_n (i := 0) (n := 110) dX6_count_109 rfl rfl rfl ?_
    refine T_getO (k := 0) (n := 113) wk_X6 dX6_count_110 wf_X6_10 (by decide) (by first | assumption | decide) rfl rfl ?_
    refine T_getO (k := 0) (n := 116) wk_X5 dX6_count_113 wf_X6_146 (by decide) (by first | assumption | decide) rfl rfl ?_
    refine J_bipush (n := 118) dX6_count_116 kB_12 rfl ?_
    refine J_callSr (n := 121) wS_X6_sumOf (c_sum_0 (d + 11) (n := 12) (f := S.1.1.1 0) (Nat.le_refl _) (fun j hj => hw.1 j hj) ⟨rfl, rfl⟩) dX6_count_118 wm_X6_260 wT_X6_sumOf rfl rfl (Nat.le_of_ble_eq_true rfl) rfl ?_
    refine J_iret dX6_count_121 rfl (kN_i _) ?_
    unfold sp_count at hq
    rw [if_neg e_1_0, if_neg e_1_1, if_neg e_1_2, if_neg e_1_3, if_neg e_1_4, if_pos e_1_5] at hq
    exact hq σ hc rfl
  refine J_tableOut (tgt := 122) dX6_count_1 (by have q_0 := lv_neT (a := 0) e_1_0 rfl; have q_1 := lv_neT (a := 1) e_1_1 rfl; have q_2 := lv_neT (a := 2) e_1_2 rfl; have q_3 := lv_neT (a := 3) e_1_3 rfl; have q_4 := lv_neT (a := 4) e_1_4 rfl; have q_5 := lv_neT (a := 5) e_1_5 rfl; omega) (by decide) ?_
  refine J_iconst (n := 123) dX6_count_122 kI_m1 rfl ?_
  refine J_iret dX6_count_123 rfl (kN_i _) ?_
  unfold sp_count at hq
  rw [if_neg e_1_0, if_neg e_1_1, if_neg e_1_2, if_neg e_1_3, if_neg e_1_4, if_neg e_1_5] at hq
  exact hq σ hc rfl

set_option maxHeartbeats 4000000 in
set_option maxRecDepth 100000 in
theorem c_G_drift {G : gx_G} {σ : gs_S} {Q : Option Value → gx_Hp → Prop} {S : pS} (d : Nat) (x n w : Int32) (hS : SOk S) (hc : cR σ S) (hq : ∀ τ, cR τ S → τ 7 0 = σ 7 0 → Q (some (.int (sp_drift S x n w))) (hp G τ)) : gx_K G yX6_drift mX6_drift (d + 12) 0 0 [.ref (gs_a G 6 0 0), .int x, .int n, .int w] (hp G σ) Q := by
  obtain ⟨hw, hs⟩ := hc.1
  have hO := hS.1.1
  have h4 : S.1.1.2.2 6 ≤ 4 := hO.2.2.2.2.1
  have h6 : S.1.1.2.2 7 ≤ 6 := hO.2.2.2.2.2.1
  have hm11 : S.1.1.2.2 8 ≤ 11 := hO.2.2.2.2.2.2.1
  have hn9 : S.1.1.2.2 9 ≤ 9999 := hO.2.2.2.2.2.2.2
  have hd9 : S.1.1.2.2 10 ≤ 999 := hS.1.2.2.1
  have e6 := hw.2.2.2.2 6 (by decide) (by decide)
  have e7 := hw.2.2.2.2 7 (by decide) (by decide)
  have e8 := hw.2.2.2.2 8 (by decide) (by decide)
  have e9 := hw.2.2.2.2 9 (by decide) (by decide)
  have e10 := hw.2.2.2.2 10 (by decide) (by decide)
  refine gx_K.of' (lv := [(0, _), (1, _), (2, _), (3, _)]) (by decide) rfl (by decide) (Nat.le_of_ble_eq_true rfl) rfl ?_
  refine J_iload_n (i := 2) (n := 1) dX6_drift_0 rfl rfl rfl ?_
  refine J_iconst (n := 2) dX6_drift_1 kI_1 rfl ?_
  refine J_icmp_lt (tgt := 19) (n := 5) dX6_drift_2 (by decide) rfl (fun c_2 => ?_) (fun c_2 => ?_)
  · refine J_iconst (n := 20) dX6_drift_19 kI_m1 rfl ?_
    refine J_iret dX6_drift_20 rfl (kN_i _) ?_
    unfold sp_drift at hq
    rw [if_neg (by
      first
      | (rw [decide_eq_false (Classical.not_not.mpr c_2), Bool.false_and]; decide)
      | (rw [decide_eq_false (Classical.not_not.mpr c_8), Bool.false_and, Bool.and_false]; decide)
      | (rw [nb_0] at c_16; rw [c_16, Bool.and_false, Bool.and_false]; decide))] at hq
    exact hq σ hc rfl
  · refine J_iload_n (i := 2) (n := 6) dX6_drift_5 rfl rfl rfl ?_
    refine J_bipush (n := 8) dX6_drift_6 kB_60 rfl ?_
    refine J_icmp_gt (tgt := 19) (n := 11) dX6_drift_8 (by decide) rfl (fun c_8 => ?_) (fun c_8 => ?_)
    · refine J_iconst (n := 20) dX6_drift_19 kI_m1 rfl ?_
      refine J_iret dX6_drift_20 rfl (kN_i _) ?_
      unfold sp_drift at hq
      rw [if_neg (by
        first
        | (rw [decide_eq_false (Classical.not_not.mpr c_2), Bool.false_and]; decide)
        | (rw [decide_eq_false (Classical.not_not.mpr c_8), Bool.false_and, Bool.and_false]; decide)
        | (rw [nb_0] at c_16; rw [c_16, Bool.and_false, Bool.and_false]; decide))] at hq
      exact hq σ hc rfl
    · refine J_iload_n (i := 3) (n := 12) dX6_drift_11 rfl rfl rfl ?_
      refine J_iconst (n := 13) dX6_drift_12 kI_1 rfl ?_
      refine J_callSr (n := 16) wS_X6_isWithin (c_isWithin (d + 11) w 1 ⟨rfl, rfl⟩) dX6_drift_13 wm_X6_51 wT_X6_isWithin rfl rfl (Nat.le_of_ble_eq_true rfl) rfl ?_
      refine J_if_ne (tgt := 21) (n := 19) dX6_drift_16 (by decide) rfl (fun c_16 => ?_) (fun c_16 => ?_)
      · rw [nb_t] at c_16
        unfold sp_drift at hq
        rw [if_pos (by rw [decide_eq_true c_2, decide_eq_true c_8, c_16]; rfl)] at hq
        obtain ⟨n, hn31, rfl⟩ := nI_of (show ¬ n < 0 from fun q => c_2 (Int32.lt_trans q (by decide +kernel)))
        rw [nat_nI (by omega)] at hq
        rw [nI_ltI (by omega) (by decide)] at c_2
        rw [nI_ltI (by decide) (by omega)] at c_8
        refine J_aload_n (i := 0) (n := 22) dX6_drift_21 rfl rfl rfl ?_
        refine T_getO (k := 2) (n := 25) wk_X6 dX6_drift_22 wf_X6_23 (by decide) (by first | assumption | decide) rfl rfl ?_
        refine J_aload_n (i := 0) (n := 26) dX6_drift_25 rfl rfl rfl ?_
        refine T_getO (k := 0) (n := 29) wk_X6 dX6_drift_26 wf_X6_10 (by decide) (by first | assumption | decide) rfl rfl ?_
        refine J_callVx (n := 32) wS_X5_become (K_eta 5 1 (c_W_become (Q := fun r h => r = none ∧ ∃ t1, wR t1 S.1.1 ∧ h = hp G (gs_set σ 5 1 t1)) (d + 10) (i := 1) (j := 0) (by decide) (by decide) (by decide) hw hO (fun t1 h1 => ⟨rfl, t1, h1, rfl⟩))) dX6_drift_29 wm_X6_85 ⟨wM_X5_become, wV_X5_become⟩ rfl (T_recv (by decide) (by first | assumption | decide)) rfl rfl (Nat.le_of_ble_eq_true rfl) rfl (fun r h1 hq1 => ?_)
        obtain ⟨rfl, t1, hw1, rfl⟩ := hq1
        refine J_iload_n (i := 1) (n := 33) dX6_drift_32 rfl rfl rfl ?_
        refine J_istore (i := 4) (n := 35) (lv' := [(0, _), (1, _), (2, _), (3, _), (4, _)]) dX6_drift_33 (by decide) rfl rfl ?_
        refine J_iconst (n := 36) dX6_drift_35 kI_0 rfl ?_
        refine J_istore (i := 5) (n := 38) (lv' := [(0, _), (1, _), (2, _), (3, _), (4, _), (5, _)]) dX6_drift_36 (by decide) rfl rfl ?_
        have loop : ∀ u e p1 x1 t0, n - e < u → e ≤ n → wR t0 p1 → pOk p1 → drf S.1.1 x n = drf p1 x1 (n - e) → gx_J G mX6_drift (d + 12) 0 0 Q 38 [(0, .ref (gs_a G 6 0 0)), (1, .int x), (2, .int (nI n)), (3, .int w), (4, .int x1), (5, .int (nI e))] [] (hp G (gs_set σ 5 1 t0)) := by
          intro u
          induction u with
          | zero => intros; exact absurd (by assumption) (Nat.not_lt_zero _)
          | succ u ih =>
            intro e p1 x1 t0 hu he hw1 hO1 hdr
            refine J_iload (i := 5) (n := 40) dX6_drift_38 rfl rfl ?_
            refine J_iload_n (i := 2) (n := 41) dX6_drift_40 rfl rfl rfl ?_
            refine J_icmp_ge (tgt := 80) (n := 44) dX6_drift_41 (by decide) rfl (fun c_41 => ?_) (fun c_41 => ?_)
            · rw [nI_leI (by omega) (by omega)] at c_41
              have ee : n = e := by omega
              subst ee
              rw [Nat.sub_self] at hdr
              have hdr : drf S.1.1 x n = p1 := hdr
              rw [hdr] at hq
              refine J_iload_n (i := 3) (n := 81) dX6_drift_80 rfl rfl rfl ?_
              refine J_if_ne (tgt := 102) (n := 84) dX6_drift_81 (by decide) rfl (fun c_81 => ?_) (fun c_81 => ?_)
              · refine J_aload_n (i := 0) (n := 103) dX6_drift_102 rfl rfl rfl ?_
                refine T_getO (k := 2) (n := 106) wk_X6 dX6_drift_103 wf_X6_23 (by decide) (by first | assumption | decide) rfl rfl ?_
                refine J_callVr (n := 109) wS_X5_metCount (c_W_metCount (d + 10) (i := 1) (by decide) (show wR (gs_set σ 5 1 t0 5 1) p1 by rw [gs_same]; exact hw1) ⟨rfl, rfl⟩) dX6_drift_106 wm_X6_219 ⟨wM_X5_metCount, wV_X5_metCount⟩ rfl (T_recv (by decide) (by first | assumption | decide)) rfl rfl (Nat.le_of_ble_eq_true rfl) rfl ?_
                refine J_iret dX6_drift_109 rfl (kN_i _) ?_
                first
                | (rw [if_pos c_81] at hq
                   rw [gs_neI (by decide : (0 : Nat) ≠ 1), hw1.2.2.2.2 9 (by decide) (by decide), e9]
                   exact hq _ (hc.scr1 (c := 5) (i := 1) (w := t0) (Or.inl ⟨rfl, by decide, by decide⟩)) (gs_neC (by decide)))
                | (rw [if_neg c_81] at hq
                   exact hq _ (hc.scr1 (c := 5) (i := 1) (w := t0) (Or.inl ⟨rfl, by decide, by decide⟩)) (gs_neC (by decide)))
              · refine J_aload_n (i := 0) (n := 85) dX6_drift_84 rfl rfl rfl ?_
                refine T_getO (k := 2) (n := 88) wk_X6 dX6_drift_85 wf_X6_23 (by decide) (by first | assumption | decide) rfl rfl ?_
                refine T_get (k := 9) (n := 91) wk_X5 dX6_drift_88 wf_X6_108 (by decide) (by first | assumption | decide) rfl rfl ?_
                refine J_aload_n (i := 0) (n := 92) dX6_drift_91 rfl rfl rfl ?_
                refine T_getO (k := 0) (n := 95) wk_X6 dX6_drift_92 wf_X6_10 (by decide) (by first | assumption | decide) rfl rfl ?_
                refine T_getO (k := 9) (n := 98) wk_X5 dX6_drift_95 wf_X6_108 (by decide) (by first | assumption | decide) rfl rfl ?_
                refine J_isub (n := 99) dX6_drift_98 rfl ?_
                refine J_goto (tgt := 109) dX6_drift_99 (by decide) ?_
                refine J_iret dX6_drift_109 rfl (kN_i _) ?_
                first
                | (rw [if_pos c_81] at hq
                   rw [gs_neI (by decide : (0 : Nat) ≠ 1), hw1.2.2.2.2 9 (by decide) (by decide), e9]
                   exact hq _ (hc.scr1 (c := 5) (i := 1) (w := t0) (Or.inl ⟨rfl, by decide, by decide⟩)) (gs_neC (by decide)))
                | (rw [if_neg c_81] at hq
                   exact hq _ (hc.scr1 (c := 5) (i := 1) (w := t0) (Or.inl ⟨rfl, by decide, by decide⟩)) (gs_neC (by decide)))
            · rw [nI_leI (by omega) (by omega)] at c_41
              have n12 : ¬ nI 12 = 0 := by decide +kernel
              refine J_iload (i := 4) (n := 46) dX6_drift_44 rfl rfl ?_
              refine J_ldc (n := 48) dX6_drift_46 wd_X6_215 rfl ?_
              refine J_imul (n := 49) dX6_drift_48 rfl ?_
              refine J_sipush (n := 52) dX6_drift_49 kS_12345 rfl ?_
              refine J_iadd (n := 53) dX6_drift_52 rfl ?_
              rw [show x1 * 1103515245 + nI 12345 = sd x1 from rfl]
              obtain ⟨m, hm1, hm2, hm3, hm4⟩ := sd_and (sd x1)
              refine J_istore (i := 4) (n := 55) (lv' := [(0, _), (1, _), (2, _), (3, _), (4, _), (5, _)]) dX6_drift_53 (by decide) rfl rfl ?_
              refine J_aload_n (i := 0) (n := 56) dX6_drift_55 rfl rfl rfl ?_
              refine T_getO (k := 2) (n := 59) wk_X6 dX6_drift_56 wf_X6_23 (by decide) (by first | assumption | decide) rfl rfl ?_
              refine J_iload (i := 4) (n := 61) dX6_drift_59 rfl rfl ?_
              refine J_bipush (n := 63) dX6_drift_61 kB_16 rfl ?_
              refine J_iushr (n := 64) dX6_drift_63 rfl ?_
              refine J_sipush (n := 67) dX6_drift_64 kS_32767 rfl ?_
              refine J_iand (n := 68) dX6_drift_67 rfl ?_
              rw [hm3]
              refine J_bipush (n := 70) dX6_drift_68 kB_12 rfl ?_
              refine J_irem (n := 71) dX6_drift_70 n12 rfl ?_
              rw [dd_mod hm1, show m % 12 = dd (sd x1) from by unfold dd; rw [hm2]]
              refine J_callVx (n := 74) wS_X5_passDay (c_W_passDay (Q := fun r h => r = none ∧ ∃ t2, wR t2 (pw_day p1 (dd (sd x1))) ∧ h = hp G (gs_set σ 5 1 t2)) (d + 7) (i := 1) (by decide) hw1 hO1 (dd_lt _) (fun t2 h2 => ⟨rfl, t2, h2, rfl⟩)) dX6_drift_71 wm_X6_216 ⟨wM_X5_passDay, wV_X5_passDay⟩ rfl (T_recv (by decide) (by first | assumption | decide)) rfl rfl (Nat.le_of_ble_eq_true rfl) rfl (fun r h1 hq1 => ?_)
              obtain ⟨rfl, t2, hw2, rfl⟩ := hq1
              refine J_inc (i := 5) (n := 77) (lv' := [(0, _), (1, _), (2, _), (3, _), (4, _), (5, _)]) dX6_drift_74 rfl (by decide) rfl rfl ?_
              refine J_goto (tgt := 38) dX6_drift_77 (by decide) ?_
              exact ih (e + 1) _ _ t2 (by omega) (by omega) hw2 (pw_day_ok hO1 (dd_lt _)) (by rw [hdr, show n - e = (n - (e + 1)) + 1 by omega]; rfl)
        exact loop (n + 1) 0 _ _ t1 (by omega) (by omega) hw1 hO rfl
      · refine J_iconst (n := 20) dX6_drift_19 kI_m1 rfl ?_
        refine J_iret dX6_drift_20 rfl (kN_i _) ?_
        unfold sp_drift at hq
        rw [if_neg (by
          first
          | (rw [decide_eq_false (Classical.not_not.mpr c_2), Bool.false_and]; decide)
          | (rw [decide_eq_false (Classical.not_not.mpr c_8), Bool.false_and, Bool.and_false]; decide)
          | (rw [nb_0] at c_16; rw [c_16, Bool.and_false, Bool.and_false]; decide))] at hq
        exact hq σ hc rfl

