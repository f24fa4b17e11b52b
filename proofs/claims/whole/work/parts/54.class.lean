/-! ===== from where it was seen ===== -/
def asS (s : ps) (p : pw) : Nat → Bool
  | 0 => true
  | i + 1 => asS s p i && decide ((pw_days p (s.1 0 i)).1 2 (s.1 1 i) = s.1 2 i)
def sk (s : ps) (p : pw) : Bool := asS s p s.2
def ftS (s : ps) (p : pw) (n : Nat) : Nat → Bool
  | 0 => true
  | i + 1 => ftS s p n i && (!decide (s.1 0 i = n) || decide (p.1 2 (s.1 1 i) = s.1 2 i))
def ld (s : ps) : Nat → Nat
  | 0 => 0
  | i + 1 => max (ld s i) (s.1 0 i + 1)
def lvd (m : Nat) : Int32 := if m = 0 then -1 else nI (m - 1)
def bo (F : Nat → Bool) : Nat → Int32
  | 0 => nI 0
  | v + 1 => bo F v ||| (nI (F v).toNat <<< (nI v &&& 31))
def ct (F : Nat → Bool) (D : Nat → Nat) (e : Nat) : Nat → Nat
  | 0 => 0
  | k + 1 => ct F D e k + (F k && decide (D k = e)).toNat
def mo (F : Nat → Bool) (D : Nat → Nat) : Nat → Nat
  | 0 => 0
  | e + 1 => max (mo F D e) (ct F D e 4)
def ak (F : Nat → Bool) (D : Nat → Nat → Nat) : Nat → Nat × Option Nat
  | 0 => (cu F 4, none)
  | n + 1 => if mo F (D n) 12 < (ak F D n).1 then (mo F (D n) 12, some n) else ak F D n
def aa (r : Nat × Option Nat) (w : Int32) : Int32 := match r.2 with
  | none => -4
  | some n => if w = 0 then nI n else nI r.1
def Fk (S : pS) (k j : Nat) : Nat → Bool := fun v => sk S.1.2 (pw_a S.1.1 k j v)
def Dk (S : pS) (j : Nat) : Nat → Nat → Nat := fun n q => (pw_days (pw_a S.1.1 1 j q) n).1 2 j
def sp_kinds (S : pS) (g : Int32) : Int32 := if isG S g = true then bo (Fk S 1 (nat g)) 4 else -1
def sp_doors (S : pS) (g : Int32) : Int32 := if isG S g = true then (if S.1.1.2.1 (nat g) = true then -2 else bo (Fk S 2 (nat g)) 12) else -1
def sp_ask (S : pS) (g w : Int32) : Int32 := if (isG S g && ix_in w 1) = true then aa (ak (Fk S 1 (nat g)) (Dk S (nat g)) 21) w else -1
theorem asS_iff (s : ps) (p : pw) (k : Nat) : asS s p k = true ↔ ∀ i, i < k → (pw_days p (s.1 0 i)).1 2 (s.1 1 i) = s.1 2 i := by
  induction k with
  | zero => exact ⟨fun _ i hi => absurd hi (Nat.not_lt_zero _), fun _ => rfl⟩
  | succ k ih =>
    show (asS s p k && decide ((pw_days p (s.1 0 k)).1 2 (s.1 1 k) = s.1 2 k)) = true ↔ _
    rw [Bool.and_eq_true, ih, decide_eq_true_eq]
    constructor
    · rintro ⟨h1, h2⟩ i hi
      rcases Nat.lt_or_ge i k with q | q
      · exact h1 i q
      · have e : i = k := by omega
        subst e; exact h2
    · intro h
      exact ⟨fun i hi => h i (by omega), h k (by omega)⟩
theorem ftS_iff (s : ps) (p : pw) (n k : Nat) : ftS s p n k = true ↔ ∀ i, i < k → s.1 0 i = n → p.1 2 (s.1 1 i) = s.1 2 i := by
  induction k with
  | zero => exact ⟨fun _ i hi => absurd hi (Nat.not_lt_zero _), fun _ => rfl⟩
  | succ k ih =>
    show (ftS s p n k && (!decide (s.1 0 k = n) || decide (p.1 2 (s.1 1 k) = s.1 2 k))) = true ↔ _
    rw [Bool.and_eq_true, ih, Bool.or_eq_true, Bool.not_eq_true', decide_eq_false_iff_not, decide_eq_true_eq]
    constructor
    · rintro ⟨h1, h2⟩ i hi hn
      rcases Nat.lt_or_ge i k with q | q
      · exact h1 i q hn
      · have e : i = k := by omega
        subst e
        rcases h2 with h2 | h2
        · exact absurd hn h2
        · exact h2
    · intro h
      refine ⟨fun i hi => h i (by omega), ?_⟩
      by_cases hn : s.1 0 k = n
      · exact Or.inr (h k (by omega) hn)
      · exact Or.inl hn
theorem ld_lt (s : ps) (k : Nat) : ∀ i, i < k → s.1 0 i < ld s k := by
  induction k with
  | zero => intro i hi; exact absurd hi (Nat.not_lt_zero _)
  | succ k ih =>
    intro i hi
    show s.1 0 i < max (ld s k) (s.1 0 k + 1)
    rcases Nat.lt_or_ge i k with q | q
    · have := ih i q; omega
    · have e : i = k := by omega
      subst e; omega
theorem ld_le {s : ps} {k b : Nat} (h : ∀ i, i < k → s.1 0 i ≤ b) : ld s k ≤ b + 1 := by
  induction k with
  | zero => exact Nat.zero_le _
  | succ k ih =>
    show max (ld s k) (s.1 0 k + 1) ≤ b + 1
    have := ih (fun i hi => h i (by omega)); have := h k (by omega); omega
theorem sk_iff (s : ps) (p : pw) : sk s p = true ↔ ∀ n, n < ld s s.2 → ftS s (pw_days p n) n s.2 = true := by
  unfold sk
  rw [asS_iff]
  constructor
  · intro h n _
    rw [ftS_iff]
    intro i hi hn
    rw [← hn]; exact h i hi
  · intro h i hi
    exact (ftS_iff _ _ _ _).mp (h (s.1 0 i) (ld_lt s s.2 i hi)) i hi rfl
theorem lvd_max {m a : Nat} (hm : m < 2 ^ 31) (ha : a < 2 ^ 30) : (if lvd m < nI a then nI a else lvd m) = lvd (max m (a + 1)) := by
  unfold lvd
  rw [if_neg (show ¬ max m (a + 1) = 0 by omega)]
  by_cases h0 : m = 0
  · subst h0
    rw [if_pos rfl, if_pos (Int32.lt_of_lt_of_le (by decide +kernel : (-1 : Int32) < 0) (nI_pos' (by omega)))]
    rw [show max 0 (a + 1) - 1 = a by omega]
  · rw [if_neg h0]
    by_cases h1 : m - 1 < a
    · rw [if_pos (nI_lt h1 (by omega)), show max m (a + 1) - 1 = a by omega]
    · rw [if_neg (nI_nlt (by omega) (by omega)), show max m (a + 1) - 1 = m - 1 by omega]
theorem lvd_lt {m n : Nat} (hm : m < 2 ^ 31) (hn : n < 2 ^ 31) : lvd m < nI n ↔ m ≤ n := by
  unfold lvd
  by_cases h0 : m = 0
  · subst h0
    rw [if_pos rfl]
    exact ⟨fun _ => Nat.zero_le _, fun _ => Int32.lt_of_lt_of_le (by decide +kernel : (-1 : Int32) < 0) (nI_pos' (by omega))⟩
  · rw [if_neg h0, nI_ltI (by omega) (by omega)]; omega
theorem bo_f {F : Nat → Bool} {v : Nat} (h : F v = false) : bo F (v + 1) = bo F v := by
  show bo F v ||| (nI (F v).toNat <<< (nI v &&& 31)) = bo F v
  rw [h]
  show bo F v ||| (0 <<< (nI v &&& 31)) = bo F v
  have e : (0 : Int32) <<< (nI v &&& 31) = 0 := by
    apply Int32.toBitVec_inj.mp
    show (0#32 <<< _) = 0#32
    simp
  rw [e, Int32.or_zero]
theorem bo_t {F : Nat → Bool} {v : Nat} (h : F v = true) : bo F (v + 1) = bo F v ||| (nI 1 <<< (nI v &&& 31)) := by
  show bo F v ||| (nI (F v).toNat <<< (nI v &&& 31)) = _
  rw [h]; rfl
def bo4 (b0 b1 b2 b3 : Bool) : Int32 := (((nI 0 ||| (nI b0.toNat <<< (nI 0 &&& 31))) ||| (nI b1.toNat <<< (nI 1 &&& 31))) ||| (nI b2.toNat <<< (nI 2 &&& 31))) ||| (nI b3.toNat <<< (nI 3 &&& 31))
theorem bo_all : ∀ b0 b1 b2 b3 : Bool, ∀ e, e < 4 → ((bo4 b0 b1 b2 b3 >>> (nI e &&& 31)) &&& nI 1 = nI 1 ↔ (if e = 0 then b0 else if e = 1 then b1 else if e = 2 then b2 else b3) = true) := by decide +kernel
theorem bo_bit (F : Nat → Bool) {e : Nat} (he : e < 4) : (bo F 4 >>> (nI e &&& 31)) &&& nI 1 = nI 1 ↔ F e = true := by
  have h := bo_all (F 0) (F 1) (F 2) (F 3) e he
  rcases (show e = 0 ∨ e = 1 ∨ e = 2 ∨ e = 3 by omega) with rfl | rfl | rfl | rfl <;> exact h
theorem ct_le (F : Nat → Bool) (D : Nat → Nat) (e k : Nat) : ct F D e k ≤ k := by
  induction k with
  | zero => exact Nat.le_refl _
  | succ k ih =>
    show ct F D e k + (F k && decide (D k = e)).toNat ≤ k + 1
    have : (F k && decide (D k = e)).toNat ≤ 1 := by cases (F k && decide (D k = e)) <;> decide
    omega
theorem mo_le (F : Nat → Bool) (D : Nat → Nat) (n : Nat) : mo F D n ≤ 4 := by
  induction n with
  | zero => exact Nat.zero_le _
  | succ n ih =>
    show max (mo F D n) (ct F D n 4) ≤ 4
    have := ct_le F D n 4; omega
theorem ak_le (F : Nat → Bool) (D : Nat → Nat → Nat) (n : Nat) : (ak F D n).1 ≤ 4 ∧ ∀ m, (ak F D n).2 = some m → m < n := by
  induction n with
  | zero => exact ⟨cu_le F 4, fun m h => by cases h⟩
  | succ n ih =>
    show (if mo F (D n) 12 < (ak F D n).1 then (mo F (D n) 12, some n) else ak F D n).1 ≤ 4 ∧ ∀ m, (if mo F (D n) 12 < (ak F D n).1 then (mo F (D n) 12, some n) else ak F D n).2 = some m → m < n + 1
    split
    · exact ⟨mo_le _ _ _, fun m h => by cases h; omega⟩
    · exact ⟨ih.1, fun m h => by have := ih.2 m h; omega⟩
set_option maxHeartbeats 4000000 in
set_option maxRecDepth 100000 in
theorem c_S_lastDay {G : gx_G} {σ : gs_S} {Q : Option Value → gx_Hp → Prop} {s : ps} (d : Nat) {a : Nat} (ha : a < gs_cnt 2) (hs : sR (σ 2 a) s) (h6 : s.2 ≤ 6) (h20 : ∀ i, i < s.2 → s.1 0 i ≤ 20) (hq : Q (some (.int (lvd (ld s s.2)))) (hp G σ)) : gx_K G yX2_lastDay mX2_lastDay (d + 1) 0 0 [.ref (gs_a G 2 a 0)] (hp G σ) Q := by
  have loop : ∀ u e, s.2 - e < u → e ≤ s.2 → gx_J G mX2_lastDay (d + 1) 0 0 Q 4 [(0, .ref (gs_a G 2 a 0)), (1, .int (lvd (ld s e))), (2, .int (nI e))] [] (hp G σ) := by
    intro u
    induction u with
    | zero => intros; exact absurd (by assumption) (Nat.not_lt_zero _)
    | succ u ih =>
      intro e hu he
      refine J_iload_n (i := 2) (n := 5) dX2_lastDay_4 rfl rfl rfl ?_
      refine J_aload_n (i := 0) (n := 6) dX2_lastDay_5 rfl rfl rfl ?_
      refine T_getO (k := 3) (n := 9) wk_X2 dX2_lastDay_6 wf_X2_27 (by decide) (by first | assumption | decide) rfl rfl ?_
      rw [hs.2]
      refine J_icmp_ge (tgt := 29) (n := 12) dX2_lastDay_9 (by decide) rfl (fun c_9 => ?_) (fun c_9 => ?_)
      · refine J_iload_n (i := 1) (n := 30) dX2_lastDay_29 rfl rfl rfl ?_
        refine J_iret dX2_lastDay_30 rfl (kN_i _) ?_
        rw [nI_leI (by omega) (by omega)] at c_9
        have ee : s.2 = e := by omega
        rw [ee] at hq
        exact hq
      · rw [nI_leI (by omega) (by omega)] at c_9
        have h20e := h20 e (by omega)
        have hlde := ld_le (s := s) (k := e) (fun i hi => h20 i (by omega))
        refine J_iload_n (i := 1) (n := 13) dX2_lastDay_12 rfl rfl rfl ?_
        refine J_aload_n (i := 0) (n := 14) dX2_lastDay_13 rfl rfl rfl ?_
        refine T_getO (k := 0) (n := 17) wk_X2 dX2_lastDay_14 wf_X2_9 (by decide) (by first | assumption | decide) rfl rfl ?_
        refine J_iload_n (i := 2) (n := 18) dX2_lastDay_17 rfl rfl rfl ?_
        refine T_ialdO (c := 2) (k := 0) (N := 6) (n := 19) dX2_lastDay_18 (by decide) (by first | assumption | decide) rfl (vp_in_nI (by omega) (by decide)) rfl ?_
        rw [nI_clamp (by omega), hs.1 0 (by decide) e (by omega)]
        refine J_mmax (n := 22) dX2_lastDay_19 wm_X2_31 ⟨wT_J9_max_7cf53, wI_J9, wC_J9_max_7cf53⟩ (Nat.le_of_ble_eq_true rfl) rfl ?_
        rw [lvd_max (by omega) (by omega)]
        refine J_istore_n (i := 1) (n := 23) (lv' := [(0, _), (1, _), (2, _)]) dX2_lastDay_22 rfl (by decide) rfl rfl ?_
        refine J_inc (i := 2) (n := 26) (lv' := [(0, _), (1, _), (2, _)]) dX2_lastDay_23 rfl (by decide) rfl rfl ?_
        refine J_goto (tgt := 4) dX2_lastDay_26 (by decide) ?_
        exact ih (e + 1) (by omega) (by omega)
  refine gx_K.of' (lv := [(0, _)]) (by decide) rfl (by decide) (Nat.le_of_ble_eq_true rfl) rfl ?_
  refine J_iconst (n := 1) dX2_lastDay_0 kI_m1 rfl ?_
  refine J_istore_n (i := 1) (n := 2) (lv' := [(0, _), (1, _)]) dX2_lastDay_1 rfl (by decide) rfl rfl ?_
  refine J_iconst (n := 3) dX2_lastDay_2 kI_0 rfl ?_
  refine J_istore_n (i := 2) (n := 4) (lv' := [(0, _), (1, _), (2, _)]) dX2_lastDay_3 rfl (by decide) rfl rfl ?_
  exact loop (s.2 + 1) 0 (by omega) (by omega)

set_option maxHeartbeats 4000000 in
set_option maxRecDepth 100000 in
theorem c_S_fits {G : gx_G} {σ : gs_S} {Q : Option Value → gx_Hp → Prop} {s : ps} {p : pw} (d : Nat) {a b n : Nat} (ha : a < gs_cnt 2) (hb : b < gs_cnt 5) (hs : sR (σ 2 a) s) (hso : sOk s (p.2.2 6)) (hw : wR (σ 5 b) p) (hO : pOk p) (hn : n < 2 ^ 30) (hq : Q (some (.int (nI (ftS s p n s.2).toNat))) (hp G σ)) : gx_K G yX2_fits mX2_fits d 0 0 [.ref (gs_a G 2 a 0), .int (nI n), .ref (gs_a G 5 b 0)] (hp G σ) Q := by
  have h6 := hso.1
  have h4 : p.2.2 6 ≤ 4 := hO.2.2.2.2.1
  have loop : ∀ u e, s.2 - e < u → e ≤ s.2 → ftS s p n e = true → gx_J G mX2_fits d 0 0 Q 2 [(0, .ref (gs_a G 2 a 0)), (1, .int (nI n)), (2, .ref (gs_a G 5 b 0)), (3, .int (nI e))] [] (hp G σ) := by
    intro u
    induction u with
    | zero => intros; exact absurd (by assumption) (Nat.not_lt_zero _)
    | succ u ih =>
      intro e hu he hf
      refine J_iload_n (i := 3) (n := 3) dX2_fits_2 rfl rfl rfl ?_
      refine J_aload_n (i := 0) (n := 4) dX2_fits_3 rfl rfl rfl ?_
      refine T_getO (k := 3) (n := 7) wk_X2 dX2_fits_4 wf_X2_27 (by decide) (by first | assumption | decide) rfl rfl ?_
      rw [hs.2]
      refine J_icmp_ge (tgt := 48) (n := 10) dX2_fits_7 (by decide) rfl (fun c_7 => ?_) (fun c_7 => ?_)
      · refine J_iconst (n := 49) dX2_fits_48 kI_1 rfl ?_
        refine J_iret dX2_fits_49 rfl (by first | exact kN_0 | exact kN_1) ?_
        rw [nI_leI (by omega) (by omega)] at c_7
        have ee : s.2 = e := by omega
        rw [ee, hf] at hq
        exact hq
      · rw [nI_leI (by omega) (by omega)] at c_7
        obtain ⟨q20, qg, q11⟩ := hso.2 e (by omega)
        have hat := (hw.2.1 _ qg).2.1
        have hat11 := (hO.2.1 _ qg).2.1
        refine J_aload_n (i := 0) (n := 11) dX2_fits_10 rfl rfl rfl ?_
        refine T_getO (k := 0) (n := 14) wk_X2 dX2_fits_11 wf_X2_9 (by decide) (by first | assumption | decide) rfl rfl ?_
        refine J_iload_n (i := 3) (n := 15) dX2_fits_14 rfl rfl rfl ?_
        refine T_ialdO (c := 2) (k := 0) (N := 6) (n := 16) dX2_fits_15 (by decide) (by first | assumption | decide) rfl (vp_in_nI (by omega) (by decide)) rfl ?_
        rw [nI_clamp (by omega), hs.1 0 (by decide) e (by omega)]
        refine J_iload_n (i := 1) (n := 17) dX2_fits_16 rfl rfl rfl ?_
        refine J_icmp_ne (tgt := 42) (n := 20) dX2_fits_17 (by decide) rfl (fun c_17 => ?_) (fun c_17 => ?_)
        · refine J_inc (i := 3) (n := 45) (lv' := [(0, _), (1, _), (2, _), (3, _)]) dX2_fits_42 rfl (by decide) rfl rfl ?_
          refine J_goto (tgt := 2) dX2_fits_45 (by decide) ?_
          refine ih (e + 1) (by omega) (by omega) ?_
          rw [ftS_iff] at hf ⊢
          intro i hi hin
          rcases Nat.lt_or_ge i e with q | q
          · exact hf i q hin
          · have eq : i = e := by omega
            subst eq
            first
            | (rw [nI_eq (by omega) (by omega)] at c_17; exact absurd hin c_17)
            | (rw [nI_eq (by omega) (by omega)] at c_37; exact c_37)
        · rw [nI_eq (by omega) (by omega)] at c_17
          refine J_aload_n (i := 2) (n := 21) dX2_fits_20 rfl rfl rfl ?_
          refine T_getO (k := 2) (n := 24) wk_X5 dX2_fits_21 wf_X2_37 (by decide) (by first | assumption | decide) rfl rfl ?_
          refine J_aload_n (i := 0) (n := 25) dX2_fits_24 rfl rfl rfl ?_
          refine T_getO (k := 1) (n := 28) wk_X2 dX2_fits_25 wf_X2_15 (by decide) (by first | assumption | decide) rfl rfl ?_
          refine J_iload_n (i := 3) (n := 29) dX2_fits_28 rfl rfl rfl ?_
          refine T_ialdO (c := 2) (k := 1) (N := 6) (n := 30) dX2_fits_29 (by decide) (by first | assumption | decide) rfl (vp_in_nI (by omega) (by decide)) rfl ?_
          rw [nI_clamp (by omega), hs.1 1 (by decide) e (by omega)]
          refine T_ialdO (c := 5) (k := 2) (N := 4) (n := 31) dX2_fits_30 (by decide) (by first | assumption | decide) rfl (vp_in_nI (by omega) (by decide)) rfl ?_
          rw [nI_clamp (by omega), hat]
          refine J_aload_n (i := 0) (n := 32) dX2_fits_31 rfl rfl rfl ?_
          refine T_getO (k := 2) (n := 35) wk_X2 dX2_fits_32 wf_X2_18 (by decide) (by first | assumption | decide) rfl rfl ?_
          refine J_iload_n (i := 3) (n := 36) dX2_fits_35 rfl rfl rfl ?_
          refine T_ialdO (c := 2) (k := 2) (N := 6) (n := 37) dX2_fits_36 (by decide) (by first | assumption | decide) rfl (vp_in_nI (by omega) (by decide)) rfl ?_
          rw [nI_clamp (by omega), hs.1 2 (by decide) e (by omega)]
          refine J_icmp_eq (tgt := 42) (n := 40) dX2_fits_37 (by decide) rfl (fun c_37 => ?_) (fun c_37 => ?_)
          · refine J_inc (i := 3) (n := 45) (lv' := [(0, _), (1, _), (2, _), (3, _)]) dX2_fits_42 rfl (by decide) rfl rfl ?_
            refine J_goto (tgt := 2) dX2_fits_45 (by decide) ?_
            refine ih (e + 1) (by omega) (by omega) ?_
            rw [ftS_iff] at hf ⊢
            intro i hi hin
            rcases Nat.lt_or_ge i e with q | q
            · exact hf i q hin
            · have eq : i = e := by omega
              subst eq
              first
              | (rw [nI_eq (by omega) (by omega)] at c_17; exact absurd hin c_17)
              | (rw [nI_eq (by omega) (by omega)] at c_37; exact c_37)
          · refine J_iconst (n := 41) dX2_fits_40 kI_0 rfl ?_
            refine J_iret dX2_fits_41 rfl (by first | exact kN_0 | exact kN_1) ?_
            rw [nI_eq (by omega) (by omega)] at c_37
            have hff : ftS s p n s.2 = false := by
              cases hc : ftS s p n s.2 with
              | false => rfl
              | true => exact absurd ((ftS_iff _ _ _ _).mp hc e (by omega) (by omega)) c_37
            rw [hff] at hq
            exact hq
  refine gx_K.of' (lv := [(0, _), (1, _), (2, _)]) (by decide) rfl (by decide) (Nat.le_of_ble_eq_true rfl) rfl ?_
  refine J_iconst (n := 1) dX2_fits_0 kI_0 rfl ?_
  refine J_istore_n (i := 3) (n := 2) (lv' := [(0, _), (1, _), (2, _), (3, _)]) dX2_fits_1 rfl (by decide) rfl rfl ?_
  exact loop (s.2 + 1) 0 (by omega) (by omega) rfl

set_option maxHeartbeats 4000000 in
set_option maxRecDepth 100000 in
theorem c_G_trialGoes {G : gx_G} {σ : gs_S} {Q : Option Value → gx_Hp → Prop} {s : ps} {p : pw} {t : gs_Ob} (d : Nat) (hs : sR (σ 2 0) s) (hso : sOk s (p.2.2 6)) (hw : wR t p) (hO : pOk p) (hd : p.2.2 10 ≤ 999) (hq : ∀ t1, Q (some (.int (nI (sk s p).toNat))) (hp G (gs_set σ 5 1 t1))) : gx_K G yX6_trialGoesAsSeen mX6_trialGoesAsSeen (d + 6) 0 0 [.ref (gs_a G 6 0 0)] (hp G (gs_set σ 5 1 t)) Q := by
  have hld := ld_le (s := s) (k := s.2) (fun i hi => (hso.2 i hi).1)
  have loop : ∀ u n t0, ld s s.2 - n < u → n ≤ ld s s.2 → wR t0 (pw_days p n) → (∀ m, m < n → ftS s (pw_days p m) m s.2 = true) → gx_J G mX6_trialGoesAsSeen (d + 6) 0 0 Q 10 [(0, .ref (gs_a G 6 0 0)), (1, .int (lvd (ld s s.2))), (2, .int (nI n))] [] (hp G (gs_set σ 5 1 t0)) := by
    intro u
    induction u with
    | zero => intros; exact absurd (by assumption) (Nat.not_lt_zero _)
    | succ u ih =>
      intro n t0 hu hn hw0 hf
      have e6n : (pw_days p n).2.2 6 = p.2.2 6 := pw_days_f _ _ _ (by decide) (by decide) (by decide)
      refine J_iload_n (i := 2) (n := 11) dX6_trialGoesAsSeen_10 rfl rfl rfl ?_
      refine J_iload_n (i := 1) (n := 12) dX6_trialGoesAsSeen_11 rfl rfl rfl ?_
      refine J_icmp_gt (tgt := 46) (n := 15) dX6_trialGoesAsSeen_12 (by decide) rfl (fun c_12 => ?_) (fun c_12 => ?_)
      · refine J_iconst (n := 47) dX6_trialGoesAsSeen_46 kI_1 rfl ?_
        refine J_iret dX6_trialGoesAsSeen_47 rfl (by first | exact kN_0 | exact kN_1) ?_
        rw [lvd_lt (by omega) (by omega)] at c_12
        have h0 := hq t0
        rw [(sk_iff s p).mpr (fun m hm => hf m (by omega))] at h0
        exact h0
      · rw [lvd_lt (by omega) (by omega)] at c_12
        refine J_aload_n (i := 0) (n := 16) dX6_trialGoesAsSeen_15 rfl rfl rfl ?_
        refine T_getO (k := 1) (n := 19) wk_X6 dX6_trialGoesAsSeen_16 wf_X6_19 (by decide) (by first | assumption | decide) rfl rfl ?_
        refine J_iload_n (i := 2) (n := 20) dX6_trialGoesAsSeen_19 rfl rfl rfl ?_
        refine J_aload_n (i := 0) (n := 21) dX6_trialGoesAsSeen_20 rfl rfl rfl ?_
        refine T_getO (k := 2) (n := 24) wk_X6 dX6_trialGoesAsSeen_21 wf_X6_23 (by decide) (by first | assumption | decide) rfl rfl ?_
        refine J_callVr (n := 27) wS_X2_fits (c_S_fits (d + 5) (a := 0) (b := 1) (by decide) (by decide) (show sR (gs_set σ 5 1 t0 2 0) s by rw [gs_neC (by decide)]; exact hs) (by rw [e6n]; exact hso) (show wR (gs_set σ 5 1 t0 5 1) (pw_days p n) by rw [gs_same]; exact hw0) (pw_days_ok hO n) (by omega) ⟨rfl, rfl⟩) dX6_trialGoesAsSeen_24 wm_X6_278 ⟨wM_X2_fits, wV_X2_fits⟩ rfl (T_recv (by decide) (by first | assumption | decide)) rfl rfl (Nat.le_of_ble_eq_true rfl) rfl ?_
        refine J_if_ne (tgt := 32) (n := 30) dX6_trialGoesAsSeen_27 (by decide) rfl (fun c_27 => ?_) (fun c_27 => ?_)
        · refine J_aload_n (i := 0) (n := 33) dX6_trialGoesAsSeen_32 rfl rfl rfl ?_
          refine T_getO (k := 2) (n := 36) wk_X6 dX6_trialGoesAsSeen_33 wf_X6_23 (by decide) (by first | assumption | decide) rfl rfl ?_
          refine J_iconst (n := 37) dX6_trialGoesAsSeen_36 kI_1 rfl ?_
          refine J_callVx (n := 40) wS_X5_passDays (c_W_passDays (Q := fun r h => r = none ∧ ∃ t2, wR t2 (pw_days (pw_days p n) 1) ∧ h = hp G (gs_set σ 5 1 t2)) (d) (i := 1) (by decide) hw0 (pw_days_ok hO n) (by rw [pw_days_day]; omega) (fun t2 h2 => ⟨rfl, t2, h2, rfl⟩)) dX6_trialGoesAsSeen_37 wm_X6_170 ⟨wM_X5_passDays, wV_X5_passDays⟩ rfl (T_recv (by decide) (by first | assumption | decide)) rfl rfl (Nat.le_of_ble_eq_true rfl) rfl (fun r h1 hq1 => ?_)
          obtain ⟨rfl, t2, hw2, rfl⟩ := hq1
          refine J_inc (i := 2) (n := 43) (lv' := [(0, _), (1, _), (2, _)]) dX6_trialGoesAsSeen_40 rfl (by decide) rfl rfl ?_
          refine J_goto (tgt := 10) dX6_trialGoesAsSeen_43 (by decide) ?_
          refine ih (n + 1) t2 (by omega) (by omega) (by rw [pw_days_add]; exact hw2) (fun m hm => ?_)
          rcases Nat.lt_or_ge m n with q | q
          · exact hf m q
          · have eq : m = n := by omega
            subst eq
            exact (nb_t _).mp c_27
        · refine J_iconst (n := 31) dX6_trialGoesAsSeen_30 kI_0 rfl ?_
          refine J_iret dX6_trialGoesAsSeen_31 rfl (by first | exact kN_0 | exact kN_1) ?_
          have hff : sk s p = false := by
            cases hc : sk s p with
            | false => rfl
            | true =>
              have := (sk_iff s p).mp hc n (by omega)
              rw [(nb_0 _).mp c_27] at this
              cases this
          have h0 := hq t0
          rw [hff] at h0
          exact h0
  refine gx_K.of' (lv := [(0, _)]) (by decide) rfl (by decide) (Nat.le_of_ble_eq_true rfl) rfl ?_
  refine J_aload_n (i := 0) (n := 1) dX6_trialGoesAsSeen_0 rfl rfl rfl ?_
  refine T_getO (k := 1) (n := 4) wk_X6 dX6_trialGoesAsSeen_1 wf_X6_19 (by decide) (by first | assumption | decide) rfl rfl ?_
  refine J_callVr (n := 7) wS_X2_lastDay (c_S_lastDay (d + 4) (a := 0) (by decide) (show sR (gs_set σ 5 1 t 2 0) s by rw [gs_neC (by decide)]; exact hs) hso.1 (fun i hi => (hso.2 i hi).1) ⟨rfl, rfl⟩) dX6_trialGoesAsSeen_4 wm_X6_275 ⟨wM_X2_lastDay, wV_X2_lastDay⟩ rfl (T_recv (by decide) (by first | assumption | decide)) rfl rfl (Nat.le_of_ble_eq_true rfl) rfl ?_
  refine J_istore_n (i := 1) (n := 8) (lv' := [(0, _), (1, _)]) dX6_trialGoesAsSeen_7 rfl (by decide) rfl rfl ?_
  refine J_iconst (n := 9) dX6_trialGoesAsSeen_8 kI_0 rfl ?_
  refine J_istore_n (i := 2) (n := 10) (lv' := [(0, _), (1, _), (2, _)]) dX6_trialGoesAsSeen_9 rfl (by decide) rfl rfl ?_
  exact loop (ld s s.2 + 1) 0 t (by omega) (by omega) hw (fun m hm => absurd hm (Nat.not_lt_zero _))

set_option maxHeartbeats 4000000 in
set_option maxRecDepth 100000 in
theorem c_G_partsAsSeen {G : gx_G} {σ : gs_S} {Q : Option Value → gx_Hp → Prop} {s : ps} {p : pw} {t : gs_Ob} (d : Nat) {j k B : Nat} (hs : sR (σ 2 0) s) (hso : sOk s (p.2.2 6)) (hw0 : wR (σ 5 0) p) (hO : pOk p) (hd : p.2.2 10 ≤ 999) (hj : j < p.2.2 6) (hk : (k = 0 ∧ B = 3) ∨ (k = 1 ∧ B = 11)) (hq : ∀ t1, Q (some (.int (bo (fun v => sk s (pw_a p (k + 1) j v)) (B + 1)))) (hp G (gs_set σ 5 1 t1))) : gx_K G yX6_partsAsSeen mX6_partsAsSeen (d + 7) 0 0 [.ref (gs_a G 6 0 0), .int (nI j), .int (nI k)] (hp G (gs_set σ 5 1 t)) Q := by
  have h4 : p.2.2 6 ≤ 4 := hO.2.2.2.2.1
  have hgr : gr (nI k) = nI B := by rcases hk with ⟨rfl, rfl⟩ | ⟨rfl, rfl⟩ <;> rfl
  have hB : B ≤ 11 := by omega
  have loop : ∀ u e t0, B + 1 - e < u → e ≤ B + 1 → gx_J G mX6_partsAsSeen (d + 7) 0 0 Q 5 [(0, .ref (gs_a G 6 0 0)), (1, .int (nI j)), (2, .int (nI k)), (3, .int (bo (fun v => sk s (pw_a p (k + 1) j v)) e)), (4, .int (nI e))] [] (hp G (gs_set σ 5 1 t0)) := by
    intro u
    induction u with
    | zero => intros; exact absurd (by assumption) (Nat.not_lt_zero _)
    | succ u ih =>
      intro e t0 hu he
      refine J_iload (i := 4) (n := 7) dX6_partsAsSeen_5 rfl rfl ?_
      refine J_iload_n (i := 2) (n := 8) dX6_partsAsSeen_7 rfl rfl rfl ?_
      refine J_callSr (n := 11) wS_X6_greatestOf (c_greatestOf (d + 6) (nI k) ⟨rfl, rfl⟩) dX6_partsAsSeen_8 wm_X6_264 wT_X6_greatestOf rfl rfl (Nat.le_of_ble_eq_true rfl) rfl ?_
      rw [hgr]
      refine J_icmp_gt (tgt := 56) (n := 14) dX6_partsAsSeen_11 (by decide) rfl (fun c_11 => ?_) (fun c_11 => ?_)
      · refine J_iload_n (i := 3) (n := 57) dX6_partsAsSeen_56 rfl rfl rfl ?_
        refine J_iret dX6_partsAsSeen_57 rfl (kN_i _) ?_
        rw [nI_ltI (by omega) (by omega)] at c_11
        have ee : e = B + 1 := by omega
        subst ee
        exact hq t0
      · rw [nI_ltI (by omega) (by omega)] at c_11
        refine J_aload_n (i := 0) (n := 15) dX6_partsAsSeen_14 rfl rfl rfl ?_
        refine T_getO (k := 2) (n := 18) wk_X6 dX6_partsAsSeen_15 wf_X6_23 (by decide) (by first | assumption | decide) rfl rfl ?_
        refine J_aload_n (i := 0) (n := 19) dX6_partsAsSeen_18 rfl rfl rfl ?_
        refine T_getO (k := 0) (n := 22) wk_X6 dX6_partsAsSeen_19 wf_X6_10 (by decide) (by first | assumption | decide) rfl rfl ?_
        refine J_callVx (n := 25) wS_X5_become (c_W_become (Q := fun r h => r = none ∧ ∃ t1, wR t1 p ∧ h = hp G (gs_set σ 5 1 t1)) (d + 5) (i := 1) (j := 0) (by decide) (by decide) (by decide) hw0 hO (fun t1 h1 => ⟨rfl, t1, h1, rfl⟩)) dX6_partsAsSeen_22 wm_X6_85 ⟨wM_X5_become, wV_X5_become⟩ rfl (T_recv (by decide) (by first | assumption | decide)) rfl rfl (Nat.le_of_ble_eq_true rfl) rfl (fun r h1 hq1 => ?_)
        obtain ⟨rfl, t1, hw1, rfl⟩ := hq1
        refine J_aload_n (i := 0) (n := 26) dX6_partsAsSeen_25 rfl rfl rfl ?_
        refine T_getO (k := 2) (n := 29) wk_X6 dX6_partsAsSeen_26 wf_X6_23 (by decide) (by first | assumption | decide) rfl rfl ?_
        refine J_iload_n (i := 1) (n := 30) dX6_partsAsSeen_29 rfl rfl rfl ?_
        refine J_iload_n (i := 2) (n := 31) dX6_partsAsSeen_30 rfl rfl rfl ?_
        refine J_iload (i := 4) (n := 33) dX6_partsAsSeen_31 rfl rfl ?_
        refine J_callVx (n := 36) wS_X5_putPart (c_W_putPart (Q := fun r h => r = none ∧ ∃ t3, wR t3 (pw_a p (k + 1) j e) ∧ h = hp G (gs_set σ 5 1 t3)) (d + 6) (i := 1) (by decide) hw1 (by omega) (by omega) (fun t3 h3 => ⟨rfl, t3, h3, rfl⟩)) dX6_partsAsSeen_33 wm_X6_162 ⟨wM_X5_putPart, wV_X5_putPart⟩ rfl (T_recv (by decide) (by first | assumption | decide)) rfl rfl (Nat.le_of_ble_eq_true rfl) rfl (fun r h1 hq1 => ?_)
        obtain ⟨rfl, t3, hw3, rfl⟩ := hq1
        refine J_aload_n (i := 0) (n := 37) dX6_partsAsSeen_36 rfl rfl rfl ?_
        refine J_callVx (n := 40) wS_X6_trialGoesAsSeen (c_G_trialGoes (Q := fun r h => r = some (.int (nI (sk s (pw_a p (k + 1) j e)).toNat)) ∧ ∃ t1, h = hp G (gs_set σ 5 1 t1)) (p := pw_a p (k + 1) j e) d hs hso hw3 (pw_a_ok hO (by omega)) hd (fun t1 => ⟨rfl, t1, rfl⟩)) dX6_partsAsSeen_37 wm_X6_272 ⟨wM_X6_trialGoesAsSeen, wV_X6_trialGoesAsSeen⟩ rfl (T_recv (by decide) (by first | assumption | decide)) rfl rfl (Nat.le_of_ble_eq_true rfl) rfl (fun r h1 hq1 => ?_)
        obtain ⟨rfl, t4, rfl⟩ := hq1
        refine J_if_eq (tgt := 50) (n := 43) dX6_partsAsSeen_40 (by decide) rfl (fun c_40 => ?_) (fun c_40 => ?_)
        · refine J_inc (i := 4) (n := 53) (lv' := [(0, _), (1, _), (2, _), (3, _), (4, _)]) dX6_partsAsSeen_50 rfl (by decide) rfl rfl ?_
          refine J_goto (tgt := 5) dX6_partsAsSeen_53 (by decide) ?_
          first
          | (have h0 := ih (e + 1) t4 (by omega) (by omega)
             rw [bo_f (F := (fun v => sk s (pw_a p (k + 1) j v))) ((nb_0 _).mp c_40)] at h0
             exact h0)
          | (have h0 := ih (e + 1) t4 (by omega) (by omega)
             rw [bo_t (F := (fun v => sk s (pw_a p (k + 1) j v))) ((nb_t _).mp c_40)] at h0
             exact h0)
        · refine J_iload_n (i := 3) (n := 44) dX6_partsAsSeen_43 rfl rfl rfl ?_
          refine J_iconst (n := 45) dX6_partsAsSeen_44 kI_1 rfl ?_
          refine J_iload (i := 4) (n := 47) dX6_partsAsSeen_45 rfl rfl ?_
          refine J_ishl (n := 48) dX6_partsAsSeen_47 rfl ?_
          refine J_ior (n := 49) dX6_partsAsSeen_48 rfl ?_
          refine J_istore_n (i := 3) (n := 50) (lv' := [(0, _), (1, _), (2, _), (3, _), (4, _)]) dX6_partsAsSeen_49 rfl (by decide) rfl rfl ?_
          refine J_inc (i := 4) (n := 53) (lv' := [(0, _), (1, _), (2, _), (3, _), (4, _)]) dX6_partsAsSeen_50 rfl (by decide) rfl rfl ?_
          refine J_goto (tgt := 5) dX6_partsAsSeen_53 (by decide) ?_
          first
          | (have h0 := ih (e + 1) t4 (by omega) (by omega)
             rw [bo_f (F := (fun v => sk s (pw_a p (k + 1) j v))) ((nb_0 _).mp c_40)] at h0
             exact h0)
          | (have h0 := ih (e + 1) t4 (by omega) (by omega)
             rw [bo_t (F := (fun v => sk s (pw_a p (k + 1) j v))) ((nb_t _).mp c_40)] at h0
             exact h0)
  refine gx_K.of' (lv := [(0, _), (1, _), (2, _)]) (by decide) rfl (by decide) (Nat.le_of_ble_eq_true rfl) rfl ?_
  refine J_iconst (n := 1) dX6_partsAsSeen_0 kI_0 rfl ?_
  refine J_istore_n (i := 3) (n := 2) (lv' := [(0, _), (1, _), (2, _), (3, _)]) dX6_partsAsSeen_1 rfl (by decide) rfl rfl ?_
  refine J_iconst (n := 3) dX6_partsAsSeen_2 kI_0 rfl ?_
  refine J_istore (i := 4) (n := 5) (lv' := [(0, _), (1, _), (2, _), (3, _), (4, _)]) dX6_partsAsSeen_3 (by decide) rfl rfl ?_
  exact loop (B + 2) 0 t (by omega) (by omega)

set_option maxHeartbeats 4000000 in
set_option maxRecDepth 100000 in
theorem c_G_kinds {G : gx_G} {σ : gs_S} {Q : Option Value → gx_Hp → Prop} {S : pS} (d : Nat) (g : Int32) (hS : SOk S) (hc : cR σ S) (hq : ∀ τ, cR τ S → τ 7 0 = σ 7 0 → Q (some (.int (sp_kinds S g))) (hp G τ)) : gx_K G yX6_kinds mX6_kinds (d + 12) 0 0 [.ref (gs_a G 6 0 0), .int g] (hp G σ) Q := by
  obtain ⟨hw, hs⟩ := hc.1
  have hO := hS.1.1
  have h4 : S.1.1.2.2 6 ≤ 4 := hO.2.2.2.2.1
  have h6 : S.1.1.2.2 7 ≤ 6 := hO.2.2.2.2.2.1
  have hm11 : S.1.1.2.2 8 ≤ 11 := hO.2.2.2.2.2.2.1
  have hn9 : S.1.1.2.2 9 ≤ 9999 := hO.2.2.2.2.2.2.2
  have hd9 : S.1.1.2.2 10 ≤ 999 := hS.1.2.2.1
  have e6 := hw.2.2.2.2 6 (by decide) (by decide)
  have e7 := hw.2.2.2.2 7 (by decide) (by decide)
  have e8 := hw.2.2.2.2 8 (by decide) (by decide)
  have e9 := hw.2.2.2.2 9 (by decide) (by decide)
  have e10 := hw.2.2.2.2 10 (by decide) (by decide)
  refine gx_K.of' (lv := [(0, _), (1, _)]) (by decide) rfl (by decide) (Nat.le_of_ble_eq_true rfl) rfl ?_
  refine J_aload_n (i := 0) (n := 1) dX6_kinds_0 rfl rfl rfl ?_
  refine J_iload_n (i := 1) (n := 2) dX6_kinds_1 rfl rfl rfl ?_
  refine J_callVr (n := 5) wS_X6_isGlove (c_isGlove (d + 10) g hw hO ⟨rfl, rfl⟩) dX6_kinds_2 wm_X6_121 ⟨wM_X6_isGlove, wV_X6_isGlove⟩ rfl (T_recv (by decide) (by first | assumption | decide)) rfl rfl (Nat.le_of_ble_eq_true rfl) rfl ?_
  refine J_if_eq (tgt := 17) (n := 8) dX6_kinds_5 (by decide) rfl (fun c_5 => ?_) (fun c_5 => ?_)
  · refine J_iconst (n := 18) dX6_kinds_17 kI_m1 rfl ?_
    refine J_iret dX6_kinds_18 rfl (kN_i _) ?_
    first
    | exact hq _ (hc.scr1 (c := 5) (i := 1) (w := t1) (Or.inl ⟨rfl, by decide, by decide⟩)) (gs_neC (by decide))
    | (rw [nb_0] at c_5
       unfold sp_kinds at hq
       rw [if_neg (by rw [show isG S g = false from c_5]; decide)] at hq
       exact hq σ hc rfl)
  · rw [nb_t] at c_5
    unfold sp_kinds at hq
    rw [if_pos (show isG S g = true from c_5)] at hq
    obtain ⟨j, hj, rfl⟩ := isG_of (S := S) c_5 hO
    rw [show nat (nI j) = j from nI_clamp (by omega)] at hq
    obtain ⟨k3, a11, w20⟩ := hO.2.1 j hj
    obtain ⟨f1, f2, f3⟩ := hw.2.1 j hj
    refine J_aload_n (i := 0) (n := 9) dX6_kinds_8 rfl rfl rfl ?_
    refine J_iload_n (i := 1) (n := 10) dX6_kinds_9 rfl rfl rfl ?_
    refine J_iconst (n := 11) dX6_kinds_10 kI_0 rfl ?_
    refine J_callVx (n := 14) wS_X6_partsAsSeen (K_eta 5 1 (c_G_partsAsSeen (Q := fun r h => r = some (.int (bo (Fk S 1 j) (3 + 1))) ∧ ∃ t1, h = hp G (gs_set σ 5 1 t1)) (d + 4) (k := 0) (B := 3) hs hS.1.2.2.2 hw hO hd9 hj (by omega) (fun t1 => ⟨rfl, t1, rfl⟩))) dX6_kinds_11 wm_X6_204 ⟨wM_X6_partsAsSeen, wV_X6_partsAsSeen⟩ rfl (T_recv (by decide) (by first | assumption | decide)) rfl rfl (Nat.le_of_ble_eq_true rfl) rfl (fun r h1 hq1 => ?_)
    obtain ⟨rfl, t1, rfl⟩ := hq1
    refine J_goto (tgt := 18) dX6_kinds_14 (by decide) ?_
    refine J_iret dX6_kinds_18 rfl (kN_i _) ?_
    first
    | exact hq _ (hc.scr1 (c := 5) (i := 1) (w := t1) (Or.inl ⟨rfl, by decide, by decide⟩)) (gs_neC (by decide))
    | (rw [nb_0] at c_5
       unfold sp_kinds at hq
       rw [if_neg (by rw [show isG S g = false from c_5]; decide)] at hq
       exact hq σ hc rfl)

set_option maxHeartbeats 4000000 in
set_option maxRecDepth 100000 in
theorem c_G_doors {G : gx_G} {σ : gs_S} {Q : Option Value → gx_Hp → Prop} {S : pS} (d : Nat) (g : Int32) (hS : SOk S) (hc : cR σ S) (hq : ∀ τ, cR τ S → τ 7 0 = σ 7 0 → Q (some (.int (sp_doors S g))) (hp G τ)) : gx_K G yX6_doors mX6_doors (d + 12) 0 0 [.ref (gs_a G 6 0 0), .int g] (hp G σ) Q := by
  obtain ⟨hw, hs⟩ := hc.1
  have hO := hS.1.1
  have h4 : S.1.1.2.2 6 ≤ 4 := hO.2.2.2.2.1
  have h6 : S.1.1.2.2 7 ≤ 6 := hO.2.2.2.2.2.1
  have hm11 : S.1.1.2.2 8 ≤ 11 := hO.2.2.2.2.2.2.1
  have hn9 : S.1.1.2.2 9 ≤ 9999 := hO.2.2.2.2.2.2.2
  have hd9 : S.1.1.2.2 10 ≤ 999 := hS.1.2.2.1
  have e6 := hw.2.2.2.2 6 (by decide) (by decide)
  have e7 := hw.2.2.2.2 7 (by decide) (by decide)
  have e8 := hw.2.2.2.2 8 (by decide) (by decide)
  have e9 := hw.2.2.2.2 9 (by decide) (by decide)
  have e10 := hw.2.2.2.2 10 (by decide) (by decide)
  refine gx_K.of' (lv := [(0, _), (1, _)]) (by decide) rfl (by decide) (Nat.le_of_ble_eq_true rfl) rfl ?_
  refine J_aload_n (i := 0) (n := 1) dX6_doors_0 rfl rfl rfl ?_
  refine J_iload_n (i := 1) (n := 2) dX6_doors_1 rfl rfl rfl ?_
  refine J_callVr (n := 5) wS_X6_isGlove (c_isGlove (d + 10) g hw hO ⟨rfl, rfl⟩) dX6_doors_2 wm_X6_121 ⟨wM_X6_isGlove, wV_X6_isGlove⟩ rfl (T_recv (by decide) (by first | assumption | decide)) rfl rfl (Nat.le_of_ble_eq_true rfl) rfl ?_
  refine J_if_ne (tgt := 10) (n := 8) dX6_doors_5 (by decide) rfl (fun c_5 => ?_) (fun c_5 => ?_)
  · rw [nb_t] at c_5
    unfold sp_doors at hq
    rw [if_pos (show isG S g = true from c_5)] at hq
    obtain ⟨j, hj, rfl⟩ := isG_of (S := S) c_5 hO
    rw [show nat (nI j) = j from nI_clamp (by omega)] at hq
    obtain ⟨k3, a11, w20⟩ := hO.2.1 j hj
    obtain ⟨f1, f2, f3⟩ := hw.2.1 j hj
    refine J_aload_n (i := 0) (n := 11) dX6_doors_10 rfl rfl rfl ?_
    refine T_getO (k := 0) (n := 14) wk_X6 dX6_doors_11 wf_X6_10 (by decide) (by first | assumption | decide) rfl rfl ?_
    refine J_iload_n (i := 1) (n := 15) dX6_doors_14 rfl rfl rfl ?_
    refine J_callVr (n := 18) wS_X5_isPaired (c_W_isPaired (d + 11) (by decide) hw (by omega) ⟨rfl, rfl⟩) dX6_doors_15 wm_X6_129 ⟨wM_X5_isPaired, wV_X5_isPaired⟩ rfl (T_recv (by decide) (by first | assumption | decide)) rfl rfl (Nat.le_of_ble_eq_true rfl) rfl ?_
    refine J_if_eq (tgt := 26) (n := 21) dX6_doors_18 (by decide) rfl (fun c_18 => ?_) (fun c_18 => ?_)
    · rw [if_neg (by rw [(nb_0 _).mp c_18]; decide)] at hq
      refine J_aload_n (i := 0) (n := 27) dX6_doors_26 rfl rfl rfl ?_
      refine J_iload_n (i := 1) (n := 28) dX6_doors_27 rfl rfl rfl ?_
      refine J_iconst (n := 29) dX6_doors_28 kI_1 rfl ?_
      refine J_callVx (n := 32) wS_X6_partsAsSeen (K_eta 5 1 (c_G_partsAsSeen (Q := fun r h => r = some (.int (bo (Fk S 2 j) (11 + 1))) ∧ ∃ t1, h = hp G (gs_set σ 5 1 t1)) (d + 4) (k := 1) (B := 11) hs hS.1.2.2.2 hw hO hd9 hj (by omega) (fun t1 => ⟨rfl, t1, rfl⟩))) dX6_doors_29 wm_X6_204 ⟨wM_X6_partsAsSeen, wV_X6_partsAsSeen⟩ rfl (T_recv (by decide) (by first | assumption | decide)) rfl rfl (Nat.le_of_ble_eq_true rfl) rfl (fun r h1 hq1 => ?_)
      obtain ⟨rfl, t1, rfl⟩ := hq1
      refine J_iret dX6_doors_32 rfl (kN_i _) ?_
      first
      | exact hq _ (hc.scr1 (c := 5) (i := 1) (w := t1) (Or.inl ⟨rfl, by decide, by decide⟩)) (gs_neC (by decide))
      | exact hq σ hc rfl
    · rw [if_pos ((nb_t _).mp c_18)] at hq
      refine J_bipush (n := 23) dX6_doors_21 kB_m2 rfl ?_
      refine J_goto (tgt := 32) dX6_doors_23 (by decide) ?_
      refine J_iret dX6_doors_32 rfl (kN_i _) ?_
      first
      | exact hq _ (hc.scr1 (c := 5) (i := 1) (w := t1) (Or.inl ⟨rfl, by decide, by decide⟩)) (gs_neC (by decide))
      | exact hq σ hc rfl
  · refine J_iconst (n := 9) dX6_doors_8 kI_m1 rfl ?_
    refine J_iret dX6_doors_9 rfl (kN_i _) ?_
    rw [nb_0] at c_5
    unfold sp_doors at hq
    rw [if_neg (by rw [show isG S g = false from c_5]; decide)] at hq
    exact hq σ hc rfl

