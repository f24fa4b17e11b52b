set_option maxHeartbeats 4000000 in
set_option maxRecDepth 100000 in
theorem c_M_which {G : gx_G} {σ : gs_S} {Q : Option Value → gx_Hp → Prop} {S : pS} {v : gs_Ob} (d : Nat) {j k B : Nat} (hS : SOk S) (hm : mR v S) (hj : j < S.1.1.2.2 6) (hk : (k = 0 ∧ B = 4) ∨ (k = 1 ∧ B = 12 ∧ S.1.1.2.1 j = false)) (hq : ∀ v1, mR v1 S → Q (some (.int (bo (Fk S (k + 1) j) B))) (hp G (gs_set σ 7 0 v1))) : gx_K G yX7_which mX7_which (d + 8) 0 0 [.ref (gs_a G 7 0 0), .int (nI (12 + 4 * j + k)), .int (nI B)] (hp G (gs_set σ 7 0 v)) Q := by
  have h4 : S.1.1.2.2 6 ≤ 4 := hS.1.1.2.2.2.2.1
  have hB12 : B ≤ 12 := by omega
  have loop : ∀ u e v1, B - e < u → e ≤ B → mR v1 S → gx_J G mX7_which (d + 8) 0 0 Q 5 [(0, .ref (gs_a G 7 0 0)), (1, .int (nI (12 + 4 * j + k))), (2, .int (nI B)), (3, .int (bo (Fk S (k + 1) j) e)), (4, .int (nI e))] [] (hp G (gs_set σ 7 0 v1)) := by
    intro u
    induction u with
    | zero => intros; exact absurd (by assumption) (Nat.not_lt_zero _)
    | succ u ih =>
      intro e v1 hu he hm1
      refine J_iload (i := 4) (n := 7) dX7_which_5 rfl rfl ?_
      refine J_iload_n (i := 2) (n := 8) dX7_which_7 rfl rfl rfl ?_
      refine J_icmp_ge (tgt := 33) (n := 11) dX7_which_8 (by decide) rfl (fun c_8 => ?_) (fun c_8 => ?_)
      · refine J_iload_n (i := 3) (n := 34) dX7_which_33 rfl rfl rfl ?_
        refine J_iret dX7_which_34 rfl (kN_i _) ?_
        rw [nI_leI (by omega) (by omega)] at c_8
        have ee : e = B := by omega
        subst ee
        exact hq v1 hm1
      · rw [nI_leI (by omega) (by omega)] at c_8
        refine J_iload_n (i := 3) (n := 12) dX7_which_11 rfl rfl rfl ?_
        refine J_aload_n (i := 0) (n := 13) dX7_which_12 rfl rfl rfl ?_
        refine J_iload_n (i := 1) (n := 14) dX7_which_13 rfl rfl rfl ?_
        refine J_iload (i := 4) (n := 16) dX7_which_14 rfl rfl ?_
        refine J_callVx (n := 19) wS_X7_isSoWith (c_M_isSoWith (Q := fun r h => r = some (.int (nI ((Fk S (k + 1) j) e).toNat)) ∧ ∃ v2, mR v2 S ∧ h = hp G (gs_set σ 7 0 v2)) d (j := j) (k := k) (e := e) hS hm1 hj (by rcases hk with ⟨q1, q2⟩ | ⟨q1, q2, q3⟩; exact Or.inl ⟨q1, by omega⟩; exact Or.inr ⟨q1, by omega, q3⟩) (fun v2 h2 _ _ => ⟨rfl, v2, h2, rfl⟩)) dX7_which_16 wm_X7_295 ⟨wM_X7_isSoWith, wV_X7_isSoWith⟩ rfl (T_recv (by decide) (by decide)) rfl rfl (Nat.le_of_ble_eq_true rfl) rfl (fun r h1 hq1 => ?_)
        obtain ⟨rfl, v2, hm2, rfl⟩ := hq1
        refine J_callSr (n := 22) wS_X7_flag (c_M_flag (d + 7) ((Fk S (k + 1) j) e) ⟨rfl, rfl⟩) dX7_which_19 wm_X7_194 wT_X7_flag rfl rfl (Nat.le_of_ble_eq_true rfl) rfl ?_
        refine J_iload (i := 4) (n := 24) dX7_which_22 rfl rfl ?_
        refine J_ishl (n := 25) dX7_which_24 rfl ?_
        refine J_ior (n := 26) dX7_which_25 rfl ?_
        refine J_istore_n (i := 3) (n := 27) (lv' := [(0, _), (1, _), (2, _), (3, _), (4, _)]) dX7_which_26 rfl (by decide) rfl rfl ?_
        refine J_inc (i := 4) (n := 30) (lv' := [(0, _), (1, _), (2, _), (3, _), (4, _)]) dX7_which_27 rfl (by decide) rfl rfl ?_
        refine J_goto (tgt := 5) dX7_which_30 (by decide) ?_
        exact ih (e + 1) v2 (by omega) (by omega) hm2
  refine gx_K.of' (lv := [(0, _), (1, _), (2, _)]) (by decide) rfl (by decide) (Nat.le_of_ble_eq_true rfl) rfl ?_
  refine J_iconst (n := 1) dX7_which_0 kI_0 rfl ?_
  refine J_istore_n (i := 3) (n := 2) (lv' := [(0, _), (1, _), (2, _), (3, _)]) dX7_which_1 rfl (by decide) rfl rfl ?_
  refine J_iconst (n := 3) dX7_which_2 kI_0 rfl ?_
  refine J_istore (i := 4) (n := 5) (lv' := [(0, _), (1, _), (2, _), (3, _), (4, _)]) dX7_which_3 (by decide) rfl rfl ?_
  exact loop (B + 1) 0 v (by omega) (by omega) hm

set_option maxHeartbeats 4000000 in
set_option maxRecDepth 100000 in
theorem c_N_kinds {G : gx_G} {σ : gs_S} {Q : Option Value → gx_Hp → Prop} {S : pS} {v : gs_Ob} (d : Nat) (g : Int32) (hS : SOk S) (hm : mR v S) (hq : ∀ v1, mR v1 S → Q (some (.int (sp_kinds S g))) (hp G (gs_set σ 7 0 v1))) : gx_K G yX7_kinds mX7_kinds (d + 12) 0 0 [.ref (gs_a G 7 0 0), .int g] (hp G (gs_set σ 7 0 v)) Q := by
  obtain ⟨⟨ha, hsn, hgl⟩, hkm, htp, hft, hsh⟩ := id hm
  have hO := hS.1.1
  have hB := hO.aB
  have h4 : S.1.1.2.2 6 ≤ 4 := hO.2.2.2.2.1
  have h6 : S.1.1.2.2 7 ≤ 6 := hO.2.2.2.2.2.1
  have hm11 : S.1.1.2.2 8 ≤ 11 := hO.2.2.2.2.2.2.1
  have hn9 : S.1.1.2.2 9 ≤ 9999 := hO.2.2.2.2.2.2.2
  have hd9 : S.1.1.2.2 10 ≤ 999 := hS.1.2.2.1
  have h160 : S.2.2.2.1.2 ≤ 160 := hS.2.2.1.1
  have e28 := ha.2.2.2.1
  have e29 := ha.2.2.2.2.1
  have e36 := ha.2.2.2.2.2.1
  have e37 := ha.2.2.2.2.2.2
  have g0 : gs_set σ 7 0 v 7 0 = v := gs_same _ _ _ _
  have hgl0 : (gs_set σ 7 0 v 7 0).2.1 3 = nI (S.1.1.2.2 6) := by rw [g0]; exact hgl
  have ha0 : aR ((gs_set σ 7 0 v 7 0).1 0) S.1.1 := by rw [g0]; exact ha
  refine gx_K.of' (lv := [(0, _), (1, _)]) (by decide) rfl (by decide) (Nat.le_of_ble_eq_true rfl) rfl ?_
  refine J_aload_n (i := 0) (n := 1) dX7_kinds_0 rfl rfl rfl ?_
  refine J_iload_n (i := 1) (n := 2) dX7_kinds_1 rfl rfl rfl ?_
  refine J_callVr (n := 5) wS_X7_isGlove (c_M_isGlove (d + 10) g (S.1.1.2.2 6) hgl0 (by omega) ⟨rfl, rfl⟩) dX7_kinds_2 wm_X7_210 ⟨wM_X7_isGlove, wV_X7_isGlove⟩ rfl (T_recv (by decide) (by decide)) rfl rfl (Nat.le_of_ble_eq_true rfl) rfl ?_
  refine J_if_eq (tgt := 24) (n := 8) dX7_kinds_5 (by decide) rfl (fun c_5 => ?_) (fun c_5 => ?_)
  · refine J_iconst (n := 25) dX7_kinds_24 kI_m1 rfl ?_
    refine J_iret dX7_kinds_25 rfl (kN_i _) ?_
    first
    | exact hq _ hm2
    | (rw [nb_0] at c_5
       unfold sp_kinds at hq
       rw [if_neg (by rw [show isG S g = false from c_5]; decide)] at hq
       exact hq v hm)
  · rw [nb_t] at c_5
    unfold sp_kinds at hq
    rw [if_pos (show isG S g = true from c_5)] at hq
    obtain ⟨j, hj, rfl⟩ := isG_of (S := S) c_5 hO
    rw [nat_nI (by omega)] at hq
    obtain ⟨k3, a11, w20⟩ := hO.2.1 j hj
    refine J_aload_n (i := 0) (n := 9) dX7_kinds_8 rfl rfl rfl ?_
    refine J_bipush (n := 11) dX7_kinds_9 kB_12 rfl ?_
    refine J_iconst (n := 12) dX7_kinds_11 kI_4 rfl ?_
    refine J_iload_n (i := 1) (n := 13) dX7_kinds_12 rfl rfl rfl ?_
    refine J_imul (n := 14) dX7_kinds_13 rfl ?_
    rw [pk_mul]
    refine J_iadd (n := 15) dX7_kinds_14 rfl ?_
    rw [nI_add]
    refine J_iconst (n := 16) dX7_kinds_15 kI_0 rfl ?_
    refine J_iadd (n := 17) dX7_kinds_16 rfl ?_
    rw [nI_add]
    refine J_iconst (n := 18) dX7_kinds_17 kI_4 rfl ?_
    refine J_callVx (n := 21) wS_X7_which (c_M_which (Q := fun r h => r = some (.int (bo (Fk S (0 + 1) j) 4)) ∧ ∃ v2, mR v2 S ∧ h = hp G (gs_set σ 7 0 v2)) (d + 3) (j := j) (k := 0) (B := 4) hS hm hj (by first | omega | exact Or.inr ⟨rfl, rfl, c15⟩) (fun v2 h2 => ⟨rfl, v2, h2, rfl⟩)) dX7_kinds_18 wm_X7_299 ⟨wM_X7_which, wV_X7_which⟩ rfl (T_recv (by decide) (by decide)) rfl rfl (Nat.le_of_ble_eq_true rfl) rfl (fun r h1 hq1 => ?_)
    obtain ⟨rfl, v2, hm2, rfl⟩ := hq1
    refine J_goto (tgt := 25) dX7_kinds_21 (by decide) ?_
    refine J_iret dX7_kinds_25 rfl (kN_i _) ?_
    first
    | exact hq _ hm2
    | (rw [nb_0] at c_5
       unfold sp_kinds at hq
       rw [if_neg (by rw [show isG S g = false from c_5]; decide)] at hq
       exact hq v hm)

set_option maxHeartbeats 4000000 in
set_option maxRecDepth 100000 in
theorem c_N_doors {G : gx_G} {σ : gs_S} {Q : Option Value → gx_Hp → Prop} {S : pS} {v : gs_Ob} (d : Nat) (g : Int32) (hS : SOk S) (hm : mR v S) (hq : ∀ v1, mR v1 S → Q (some (.int (sp_doors S g))) (hp G (gs_set σ 7 0 v1))) : gx_K G yX7_doors mX7_doors (d + 12) 0 0 [.ref (gs_a G 7 0 0), .int g] (hp G (gs_set σ 7 0 v)) Q := by
  obtain ⟨⟨ha, hsn, hgl⟩, hkm, htp, hft, hsh⟩ := id hm
  have hO := hS.1.1
  have hB := hO.aB
  have h4 : S.1.1.2.2 6 ≤ 4 := hO.2.2.2.2.1
  have h6 : S.1.1.2.2 7 ≤ 6 := hO.2.2.2.2.2.1
  have hm11 : S.1.1.2.2 8 ≤ 11 := hO.2.2.2.2.2.2.1
  have hn9 : S.1.1.2.2 9 ≤ 9999 := hO.2.2.2.2.2.2.2
  have hd9 : S.1.1.2.2 10 ≤ 999 := hS.1.2.2.1
  have h160 : S.2.2.2.1.2 ≤ 160 := hS.2.2.1.1
  have e28 := ha.2.2.2.1
  have e29 := ha.2.2.2.2.1
  have e36 := ha.2.2.2.2.2.1
  have e37 := ha.2.2.2.2.2.2
  have g0 : gs_set σ 7 0 v 7 0 = v := gs_same _ _ _ _
  have hgl0 : (gs_set σ 7 0 v 7 0).2.1 3 = nI (S.1.1.2.2 6) := by rw [g0]; exact hgl
  have ha0 : aR ((gs_set σ 7 0 v 7 0).1 0) S.1.1 := by rw [g0]; exact ha
  refine gx_K.of' (lv := [(0, _), (1, _)]) (by decide) rfl (by decide) (Nat.le_of_ble_eq_true rfl) rfl ?_
  refine J_aload_n (i := 0) (n := 1) dX7_doors_0 rfl rfl rfl ?_
  refine J_iload_n (i := 1) (n := 2) dX7_doors_1 rfl rfl rfl ?_
  refine J_callVr (n := 5) wS_X7_isGlove (c_M_isGlove (d + 10) g (S.1.1.2.2 6) hgl0 (by omega) ⟨rfl, rfl⟩) dX7_doors_2 wm_X7_210 ⟨wM_X7_isGlove, wV_X7_isGlove⟩ rfl (T_recv (by decide) (by decide)) rfl rfl (Nat.le_of_ble_eq_true rfl) rfl ?_
  refine J_if_ne (tgt := 10) (n := 8) dX7_doors_5 (by decide) rfl (fun c_5 => ?_) (fun c_5 => ?_)
  · rw [nb_t] at c_5
    unfold sp_doors at hq
    rw [if_pos (show isG S g = true from c_5)] at hq
    obtain ⟨j, hj, rfl⟩ := isG_of (S := S) c_5 hO
    rw [nat_nI (by omega)] at hq
    obtain ⟨k3, a11, w20⟩ := hO.2.1 j hj
    refine J_aload_n (i := 0) (n := 11) dX7_doors_10 rfl rfl rfl ?_
    refine J_iload_n (i := 1) (n := 12) dX7_doors_11 rfl rfl rfl ?_
    refine J_callVr (n := 15) wS_X7_wasPaired (c_M_wasPaired (d + 11) ha0 hB hj ⟨rfl, rfl⟩) dX7_doors_12 wm_X7_226 ⟨wM_X7_wasPaired, wV_X7_wasPaired⟩ rfl (T_recv (by decide) (by decide)) rfl rfl (Nat.le_of_ble_eq_true rfl) rfl ?_
    refine J_if_eq (tgt := 23) (n := 18) dX7_doors_15 (by decide) rfl (fun c_15 => ?_) (fun c_15 => ?_)
    · have c15 := (nb_0 _).mp c_15
      rw [if_neg (by rw [c15]; decide)] at hq
      refine J_aload_n (i := 0) (n := 24) dX7_doors_23 rfl rfl rfl ?_
      refine J_bipush (n := 26) dX7_doors_24 kB_12 rfl ?_
      refine J_iconst (n := 27) dX7_doors_26 kI_4 rfl ?_
      refine J_iload_n (i := 1) (n := 28) dX7_doors_27 rfl rfl rfl ?_
      refine J_imul (n := 29) dX7_doors_28 rfl ?_
      rw [pk_mul]
      refine J_iadd (n := 30) dX7_doors_29 rfl ?_
      rw [nI_add]
      refine J_iconst (n := 31) dX7_doors_30 kI_1 rfl ?_
      refine J_iadd (n := 32) dX7_doors_31 rfl ?_
      rw [nI_add]
      refine J_bipush (n := 34) dX7_doors_32 kB_12 rfl ?_
      refine J_callVx (n := 37) wS_X7_which (c_M_which (Q := fun r h => r = some (.int (bo (Fk S (1 + 1) j) 12)) ∧ ∃ v2, mR v2 S ∧ h = hp G (gs_set σ 7 0 v2)) (d + 3) (j := j) (k := 1) (B := 12) hS hm hj (by first | omega | exact Or.inr ⟨rfl, rfl, c15⟩) (fun v2 h2 => ⟨rfl, v2, h2, rfl⟩)) dX7_doors_34 wm_X7_299 ⟨wM_X7_which, wV_X7_which⟩ rfl (T_recv (by decide) (by decide)) rfl rfl (Nat.le_of_ble_eq_true rfl) rfl (fun r h1 hq1 => ?_)
      obtain ⟨rfl, v2, hm2, rfl⟩ := hq1
      refine J_iret dX7_doors_37 rfl (kN_i _) ?_
      first
      | exact hq _ hm2
      | exact hq v hm
    · rw [nb_t] at c_15
      rw [if_pos c_15] at hq
      refine J_bipush (n := 20) dX7_doors_18 kB_m2 rfl ?_
      refine J_goto (tgt := 37) dX7_doors_20 (by decide) ?_
      refine J_iret dX7_doors_37 rfl (kN_i _) ?_
      first
      | exact hq _ hm2
      | exact hq v hm
  · refine J_iconst (n := 9) dX7_doors_8 kI_m1 rfl ?_
    refine J_iret dX7_doors_9 rfl (kN_i _) ?_
    rw [nb_0] at c_5
    unfold sp_doors at hq
    rw [if_neg (by rw [show isG S g = false from c_5]; decide)] at hq
    exact hq v hm

def al (E : Nat → Nat) (x : Nat) : Nat → Nat
  | 0 => 0
  | m + 1 => al E x m + (decide (x = E m)).toNat
def wo (E : Nat → Nat) (C : Nat) : Nat → Nat
  | 0 => 0
  | a + 1 => if wo E C a < al E (E a) C then al E (E a) C else wo E C a
theorem al_le (E : Nat → Nat) (x m : Nat) : al E x m ≤ m := by
  induction m with
  | zero => exact Nat.le_refl _
  | succ m ih =>
    show al E x m + (decide (x = E m)).toNat ≤ m + 1
    have : (decide (x = E m)).toNat ≤ 1 := by cases decide (x = E m) <;> decide
    omega
theorem wo_le (E : Nat → Nat) (C m : Nat) : wo E C m ≤ C := by
  induction m with
  | zero => exact Nat.zero_le _
  | succ m ih =>
    show (if wo E C m < al E (E m) C then al E (E m) C else wo E C m) ≤ C
    have := al_le E (E m) C
    split <;> omega
theorem wo_ge (E : Nat → Nat) (C m : Nat) : ∀ a, a < m → al E (E a) C ≤ wo E C m := by
  induction m with
  | zero => intro a ha; exact absurd ha (Nat.not_lt_zero _)
  | succ m ih =>
    intro a ha
    show _ ≤ (if wo E C m < al E (E m) C then al E (E m) C else wo E C m)
    by_cases e : a = m
    · subst e; split <;> omega
    · have := ih a (by omega); split <;> omega
theorem wo_of (E : Nat → Nat) (C m b : Nat) (h : ∀ a, a < m → al E (E a) C ≤ b) : wo E C m ≤ b := by
  induction m with
  | zero => exact Nat.zero_le _
  | succ m ih =>
    show (if wo E C m < al E (E m) C then al E (E m) C else wo E C m) ≤ b
    have h1 := ih (fun a ha => h a (by omega))
    have h2 := h m (by omega)
    split <;> omega
theorem mo_ge (F : Nat → Bool) (D : Nat → Nat) (n : Nat) : ∀ e, e < n → ct F D e 4 ≤ mo F D n := by
  induction n with
  | zero => intro e he; exact absurd he (Nat.not_lt_zero _)
  | succ n ih =>
    intro e he
    show _ ≤ max (mo F D n) (ct F D n 4)
    by_cases q : e = n
    · subst q; omega
    · have := ih e (by omega); omega
theorem mo_of (F : Nat → Bool) (D : Nat → Nat) (n b : Nat) (h : ∀ e, e < n → ct F D e 4 ≤ b) : mo F D n ≤ b := by
  induction n with
  | zero => exact Nat.zero_le _
  | succ n ih =>
    show max (mo F D n) (ct F D n 4) ≤ b
    have h1 := ih (fun a ha => h a (by omega))
    have h2 := h n (by omega)
    omega
theorem al_ct {F : Nat → Bool} {D E : Nat → Nat} {n : Nat} (h : ∀ k, k < n → F k = true → E (cu F k) = D k) (x : Nat) : al E x (cu F n) = ct F D x n := by
  induction n with
  | zero => rfl
  | succ n ih =>
    have h1 := ih (fun k hk => h k (by omega))
    show al E x (cu F n + (F n).toNat) = ct F D x n + (F n && decide (D n = x)).toNat
    cases hf : F n with
    | false => rw [Bool.false_and]; exact h1
    | true =>
      show al E x (cu F n) + (decide (x = E (cu F n))).toNat = _
      rw [h1, h n (by omega) hf, Bool.true_and, show decide (x = D n) = decide (D n = x) from decide_eq_decide.mpr ⟨Eq.symm, Eq.symm⟩]
theorem cu_ex {F : Nat → Bool} {n a : Nat} (h : a < cu F n) : ∃ k, k < n ∧ F k = true ∧ cu F k = a := by
  induction n with
  | zero => exact absurd h (Nat.not_lt_zero _)
  | succ n ih =>
    have h : a < cu F n + (F n).toNat := h
    by_cases q : a < cu F n
    · obtain ⟨k, h1, h2⟩ := ih q; exact ⟨k, by omega, h2⟩
    · cases hf : F n with
      | false => rw [hf] at h; exact absurd h q
      | true =>
        rw [hf] at h
        have h : a < cu F n + 1 := h
        exact ⟨n, Nat.lt_succ_self _, hf, by omega⟩
theorem cu_mono {F : Nat → Bool} {k n : Nat} (h : k < n) (hf : F k = true) : cu F k < cu F n := by
  induction n with
  | zero => exact absurd h (Nat.not_lt_zero _)
  | succ n ih =>
    show cu F k < cu F n + (F n).toNat
    by_cases e : k = n
    · subst e; rw [hf]; exact Nat.lt_succ_self _
    · have := ih (by omega); omega
theorem ct_ex {F : Nat → Bool} {D : Nat → Nat} {e n : Nat} (h : 0 < ct F D e n) : ∃ k, k < n ∧ F k = true ∧ D k = e := by
  induction n with
  | zero => exact absurd h (Nat.not_lt_zero _)
  | succ n ih =>
    have h : 0 < ct F D e n + (F n && decide (D n = e)).toNat := h
    by_cases q : 0 < ct F D e n
    · obtain ⟨k, h1, h2⟩ := ih q; exact ⟨k, by omega, h2⟩
    · cases hf : (F n && decide (D n = e)) with
      | false => rw [hf] at h; exact absurd h q
      | true =>
        rw [Bool.and_eq_true, decide_eq_true_eq] at hf
        exact ⟨n, Nat.lt_succ_self _, hf⟩
theorem wo_mo {F : Nat → Bool} {D E : Nat → Nat} (h : ∀ k, k < 4 → F k = true → E (cu F k) = D k ∧ D k ≤ 11) : wo E (cu F 4) (cu F 4) = mo F D 12 := by
  have ha := fun x => al_ct (n := 4) (fun k hk hf => (h k hk hf).1) x
  apply Nat.le_antisymm
  · refine wo_of _ _ _ _ (fun a ha0 => ?_)
    obtain ⟨k, hk, hf, rfl⟩ := cu_ex ha0
    rw [ha]
    obtain ⟨h1, h2⟩ := h k hk hf
    exact mo_ge F D 12 _ (by rw [h1]; omega)
  · refine mo_of _ _ _ _ (fun e he => ?_)
    by_cases hz : 0 < ct F D e 4
    · obtain ⟨k, hk, hf, hd⟩ := ct_ex hz
      have h1 := wo_ge E (cu F 4) (cu F 4) (cu F k) (cu_mono hk hf)
      rw [ha, (h k hk hf).1, hd] at h1
      exact h1
    · omega
set_option maxHeartbeats 4000000 in
set_option maxRecDepth 100000 in
theorem j_ask7_128 {G : gx_G} {σ : gs_S} {Q : Option Value → gx_Hp → Prop} (d : Nat) {E : Nat → Nat → Nat} {C : Nat} {x1 w : Int32} {v1 : gs_Ob} (hC : C ≤ 4) (hE : ∀ n a, n ≤ 20 → a < C → v1.1 24 (21 * a + n) = nI (E n a) ∧ E n a ≤ 11) {n a : Nat} {x4 x5 x7 : Int32} (hn : n ≤ 20) (ha : a < C) (k182 : gx_J G mX7_ask (d + 12) 0 0 Q 182 [(0, .ref (gs_a G 7 0 0)), (1, .int x1), (2, .int w), (3, .int (nI C)), (4, .int x4), (5, .int x5), (6, .int (nI n)), (7, .int x7), (8, .int (nI a)), (9, .int (nI (al (E n) (E n a) C))), (10, .int (nI C))] [] (hp G (gs_set σ 7 0 v1))) : ∀ u b, C - b < u → b ≤ C → gx_J G mX7_ask (d + 12) 0 0 Q 128 [(0, .ref (gs_a G 7 0 0)), (1, .int x1), (2, .int w), (3, .int (nI C)), (4, .int x4), (5, .int x5), (6, .int (nI n)), (7, .int x7), (8, .int (nI a)), (9, .int (nI (al (E n) (E n a) b))), (10, .int (nI b))] [] (hp G (gs_set σ 7 0 v1)) := by
  intro u
  induction u with
  | zero => intros; exact absurd (by assumption) (Nat.not_lt_zero _)
  | succ u ihu =>
    intro b hu hb
    obtain ⟨hEa, hE11⟩ := hE n a hn ha
    refine J_iload (i := 10) (n := 130) dX7_ask_128 rfl rfl ?_
    refine J_iload_n (i := 3) (n := 131) dX7_ask_130 rfl rfl rfl ?_
    refine J_icmp_ge (tgt := 182) (n := 134) dX7_ask_131 (by decide) rfl (fun c_131 => ?_) (fun c_131 => ?_)
    · rw [nI_leI (by omega) (by omega)] at c_131
      have ee : b = C := by omega
      subst ee
      exact k182
    · rw [nI_leI (by omega) (by omega)] at c_131
      obtain ⟨hEb, hE1b⟩ := hE n b hn (by omega)
      refine J_iload (i := 9) (n := 136) dX7_ask_134 rfl rfl ?_
      refine J_aload_n (i := 0) (n := 137) dX7_ask_136 rfl rfl rfl ?_
      refine T_get (k := 24) (n := 140) wk_X7 dX7_ask_137 wf_X7_29 (by decide) (by decide) rfl rfl ?_
      refine J_bipush (n := 142) dX7_ask_140 kB_21 rfl ?_
      refine J_iload (i := 8) (n := 144) dX7_ask_142 rfl rfl ?_
      refine J_imul (n := 145) dX7_ask_144 rfl ?_
      rw [pk_mul]
      refine J_iload (i := 6) (n := 147) dX7_ask_145 rfl rfl ?_
      refine J_iadd (n := 148) dX7_ask_147 rfl ?_
      rw [nI_add]
      refine T_iald (c := 7) (k := 24) (N := 84) (n := 149) dX7_ask_148 (by decide) (by decide) rfl (vp_in_nI (by omega) (by decide)) rfl ?_
      rw [nI_clamp (by omega), hEa]
      refine J_aload_n (i := 0) (n := 150) dX7_ask_149 rfl rfl rfl ?_
      refine T_get (k := 24) (n := 153) wk_X7 dX7_ask_150 wf_X7_29 (by decide) (by decide) rfl rfl ?_
      refine J_bipush (n := 155) dX7_ask_153 kB_21 rfl ?_
      refine J_iload (i := 10) (n := 157) dX7_ask_155 rfl rfl ?_
      refine J_imul (n := 158) dX7_ask_157 rfl ?_
      rw [pk_mul]
      refine J_iload (i := 6) (n := 160) dX7_ask_158 rfl rfl ?_
      refine J_iadd (n := 161) dX7_ask_160 rfl ?_
      rw [nI_add]
      refine T_iald (c := 7) (k := 24) (N := 84) (n := 162) dX7_ask_161 (by decide) (by decide) rfl (vp_in_nI (by omega) (by decide)) rfl ?_
      rw [nI_clamp (by omega), hEb]
      refine J_icmp_ne (tgt := 169) (n := 165) dX7_ask_162 (by decide) rfl (fun c_162 => ?_) (fun c_162 => ?_)
      · rw [nI_eq (by omega) (by omega)] at c_162
        refine J_iconst (n := 170) dX7_ask_169 kI_0 rfl ?_
        refine J_callSr (n := 173) wS_X7_flag (c_M_flag (d + 11) false ⟨rfl, rfl⟩) dX7_ask_170 wm_X7_194 wT_X7_flag rfl rfl (Nat.le_of_ble_eq_true rfl) rfl ?_
        refine J_iadd (n := 174) dX7_ask_173 rfl ?_
        refine J_istore (i := 9) (n := 176) (lv' := [(0, _), (1, _), (2, _), (3, _), (4, _), (5, _), (6, _), (7, _), (8, _), (9, _), (10, _)]) dX7_ask_174 (by decide) rfl rfl ?_
        refine J_inc (i := 10) (n := 179) (lv' := [(0, _), (1, _), (2, _), (3, _), (4, _), (5, _), (6, _), (7, _), (8, _), (9, _), (10, _)]) dX7_ask_176 rfl (by decide) rfl rfl ?_
        refine J_goto (tgt := 128) dX7_ask_179 (by decide) ?_
        have hb : (decide (E n a = E n b)) = false := by first | exact decide_eq_true c_162 | exact decide_eq_false c_162
        have h0 := ihu (b + 1) (by omega) (by omega)
        rw [show al (E n) (E n a) (b + 1) = al (E n) (E n a) b + (decide (E n a = E n b)).toNat from rfl, hb] at h0
        rw [nI_add]
        exact h0
      · rw [nI_eq (by omega) (by omega)] at c_162
        refine J_iconst (n := 166) dX7_ask_165 kI_1 rfl ?_
        refine J_goto (tgt := 170) dX7_ask_166 (by decide) ?_
        refine J_callSr (n := 173) wS_X7_flag (c_M_flag (d + 11) true ⟨rfl, rfl⟩) dX7_ask_170 wm_X7_194 wT_X7_flag rfl rfl (Nat.le_of_ble_eq_true rfl) rfl ?_
        refine J_iadd (n := 174) dX7_ask_173 rfl ?_
        refine J_istore (i := 9) (n := 176) (lv' := [(0, _), (1, _), (2, _), (3, _), (4, _), (5, _), (6, _), (7, _), (8, _), (9, _), (10, _)]) dX7_ask_174 (by decide) rfl rfl ?_
        refine J_inc (i := 10) (n := 179) (lv' := [(0, _), (1, _), (2, _), (3, _), (4, _), (5, _), (6, _), (7, _), (8, _), (9, _), (10, _)]) dX7_ask_176 rfl (by decide) rfl rfl ?_
        refine J_goto (tgt := 128) dX7_ask_179 (by decide) ?_
        have hb : (decide (E n a = E n b)) = true := by first | exact decide_eq_true c_162 | exact decide_eq_false c_162
        have h0 := ihu (b + 1) (by omega) (by omega)
        rw [show al (E n) (E n a) (b + 1) = al (E n) (E n a) b + (decide (E n a = E n b)).toNat from rfl, hb] at h0
        rw [nI_add]
        exact h0
set_option maxHeartbeats 4000000 in
set_option maxRecDepth 100000 in
theorem j_ask7_116 {G : gx_G} {σ : gs_S} {Q : Option Value → gx_Hp → Prop} (d : Nat) {E : Nat → Nat → Nat} {C : Nat} {x1 w : Int32} {v1 : gs_Ob} (hC : C ≤ 4) (hE : ∀ n a, n ≤ 20 → a < C → v1.1 24 (21 * a + n) = nI (E n a) ∧ E n a ≤ 11) {n : Nat} {x4 x5 : Int32} (hn : n ≤ 20) (k204 : ∀ x9 x10 : Int32, gx_J G mX7_ask (d + 12) 0 0 Q 204 [(0, .ref (gs_a G 7 0 0)), (1, .int x1), (2, .int w), (3, .int (nI C)), (4, .int x4), (5, .int x5), (6, .int (nI n)), (7, .int (nI (wo (E n) C C))), (8, .int (nI C))] [] (hp G (gs_set σ 7 0 v1))) : ∀ u a, C - a < u → a ≤ C → gx_J G mX7_ask (d + 12) 0 0 Q 116 [(0, .ref (gs_a G 7 0 0)), (1, .int x1), (2, .int w), (3, .int (nI C)), (4, .int x4), (5, .int x5), (6, .int (nI n)), (7, .int (nI (wo (E n) C a))), (8, .int (nI a))] [] (hp G (gs_set σ 7 0 v1)) := by
  intro u
  induction u with
  | zero => intros; exact absurd (by assumption) (Nat.not_lt_zero _)
  | succ u ihu =>
    intro a hu ha
    have hal := al_le (E n) (E n a) C
    have hwl := wo_le (E n) C a
    refine J_iload (i := 8) (n := 118) dX7_ask_116 rfl rfl ?_
    refine J_iload_n (i := 3) (n := 119) dX7_ask_118 rfl rfl rfl ?_
    refine J_icmp_ge (tgt := 204) (n := 122) dX7_ask_119 (by decide) rfl (fun c_119 => ?_) (fun c_119 => ?_)
    · rw [nI_leI (by omega) (by omega)] at c_119
      have ee : a = C := by omega
      subst ee
      exact k204 0 0
    · rw [nI_leI (by omega) (by omega)] at c_119
      refine J_iconst (n := 123) dX7_ask_122 kI_0 rfl ?_
      refine J_istore (i := 9) (n := 125) (lv' := [(0, _), (1, _), (2, _), (3, _), (4, _), (5, _), (6, _), (7, _), (8, _), (9, _)]) dX7_ask_123 (by decide) rfl rfl ?_
      refine J_iconst (n := 126) dX7_ask_125 kI_0 rfl ?_
      refine J_istore (i := 10) (n := 128) (lv' := [(0, _), (1, _), (2, _), (3, _), (4, _), (5, _), (6, _), (7, _), (8, _), (9, _), (10, _)]) dX7_ask_126 (by decide) rfl rfl ?_
      refine j_ask7_128 d hC hE hn (by omega) ?_ (C + 1) 0 (by omega) (by omega)
      refine J_iload (i := 9) (n := 184) dX7_ask_182 rfl rfl ?_
      refine J_iload (i := 7) (n := 186) dX7_ask_184 rfl rfl ?_
      refine J_icmp_le (tgt := 194) (n := 189) dX7_ask_186 (by decide) rfl (fun c_186 => ?_) (fun c_186 => ?_)
      · refine J_iload (i := 7) (n := 196) dX7_ask_194 rfl rfl ?_
        refine J_istore (i := 7) (n := 198) (lv' := [(0, _), (1, _), (2, _), (3, _), (4, _), (5, _), (6, _), (7, _), (8, _), (9, _), (10, _)]) dX7_ask_196 (by decide) rfl rfl ?_
        refine J_inc (i := 8) (n := 201) (lv' := [(0, _), (1, _), (2, _), (3, _), (4, _), (5, _), (6, _), (7, _), (8, _), (9, _), (10, _)]) dX7_ask_198 rfl (by decide) rfl rfl ?_
        refine J_goto (tgt := 116) dX7_ask_201 (by decide) ?_
        refine J_sub (lv' := [(0, _), (1, _), (2, _), (3, _), (4, _), (5, _), (6, _), (7, _), (8, _)]) (fun q hq => List.mem_append_left [(9, _), (10, _)] hq) ?_
        have h0 := ihu (a + 1) (by omega) (by omega)
        rw [nI_leI (by omega) (by omega)] at c_186
        have hs : wo (E n) C (a + 1) = if wo (E n) C a < al (E n) (E n a) C then al (E n) (E n a) C else wo (E n) C a := rfl
        first
        | (rw [if_neg (Nat.not_lt.mpr c_186)] at hs; rw [hs] at h0; exact h0)
        | (rw [if_pos (Nat.not_le.mp c_186)] at hs; rw [hs] at h0; exact h0)
      · refine J_iload (i := 9) (n := 191) dX7_ask_189 rfl rfl ?_
        refine J_goto (tgt := 196) dX7_ask_191 (by decide) ?_
        refine J_istore (i := 7) (n := 198) (lv' := [(0, _), (1, _), (2, _), (3, _), (4, _), (5, _), (6, _), (7, _), (8, _), (9, _), (10, _)]) dX7_ask_196 (by decide) rfl rfl ?_
        refine J_inc (i := 8) (n := 201) (lv' := [(0, _), (1, _), (2, _), (3, _), (4, _), (5, _), (6, _), (7, _), (8, _), (9, _), (10, _)]) dX7_ask_198 rfl (by decide) rfl rfl ?_
        refine J_goto (tgt := 116) dX7_ask_201 (by decide) ?_
        refine J_sub (lv' := [(0, _), (1, _), (2, _), (3, _), (4, _), (5, _), (6, _), (7, _), (8, _)]) (fun q hq => List.mem_append_left [(9, _), (10, _)] hq) ?_
        have h0 := ihu (a + 1) (by omega) (by omega)
        rw [nI_leI (by omega) (by omega)] at c_186
        have hs : wo (E n) C (a + 1) = if wo (E n) C a < al (E n) (E n a) C then al (E n) (E n a) C else wo (E n) C a := rfl
        first
        | (rw [if_neg (Nat.not_lt.mpr c_186)] at hs; rw [hs] at h0; exact h0)
        | (rw [if_pos (Nat.not_le.mp c_186)] at hs; rw [hs] at h0; exact h0)
set_option maxHeartbeats 4000000 in
set_option maxRecDepth 100000 in
theorem j_ask7_103 {G : gx_G} {σ : gs_S} {Q : Option Value → gx_Hp → Prop} (d : Nat) {F : Nat → Bool} {D E : Nat → Nat → Nat} {C : Nat} {x1 w : Int32} {v1 : gs_Ob} (hC : C ≤ 4) (hE : ∀ n a, n ≤ 20 → a < C → v1.1 24 (21 * a + n) = nI (E n a) ∧ E n a ≤ 11) (hwo : ∀ n, n ≤ 20 → wo (E n) C C = mo F (D n) 12) (hq : Q (some (.int (aa (ak F D 21) w))) (hp G (gs_set σ 7 0 v1))) : ∀ u n, 21 - n < u → n ≤ 21 → gx_J G mX7_ask (d + 12) 0 0 Q 103 [(0, .ref (gs_a G 7 0 0)), (1, .int x1), (2, .int w), (3, .int (nI C)), (4, .int (nI (ak F D n).1)), (5, .int (cd (ak F D n).2)), (6, .int (nI n))] [] (hp G (gs_set σ 7 0 v1)) := by
  intro u
  induction u with
  | zero => intros; exact absurd (by assumption) (Nat.not_lt_zero _)
  | succ u ihu =>
    intro n hu hn
    have hak := ak_le F D n
    have hmo := mo_le F (D n) 12
    refine J_iload (i := 6) (n := 105) dX7_ask_103 rfl rfl ?_
    refine J_bipush (n := 107) dX7_ask_105 kB_20 rfl ?_
    refine J_icmp_gt (tgt := 225) (n := 110) dX7_ask_107 (by decide) rfl (fun c_107 => ?_) (fun c_107 => ?_)
    · rw [nI_ltI (by omega) (by omega)] at c_107
      have ee : n = 21 := by omega
      subst ee
      obtain ⟨z1, z2, z3⟩ := aa_end (r := ak F D 21) (w := w) (fun m hm => by have := hak.2 m hm; omega)
      refine J_iload (i := 5) (n := 227) dX7_ask_225 rfl rfl ?_
      refine J_bipush (n := 229) dX7_ask_227 kB_m4 rfl ?_
      refine J_icmp_ne (tgt := 237) (n := 232) dX7_ask_229 (by decide) rfl (fun c_229 => ?_) (fun c_229 => ?_)
      · refine J_iload_n (i := 2) (n := 238) dX7_ask_237 rfl rfl rfl ?_
        refine J_if_ne (tgt := 246) (n := 241) dX7_ask_238 (by decide) rfl (fun c_238 => ?_) (fun c_238 => ?_)
        · refine J_iload (i := 4) (n := 248) dX7_ask_246 rfl rfl ?_
          refine J_iret dX7_ask_248 rfl (kN_i _) ?_
          first
          | (rw [z1 c_229] at hq; rw [c_229] at hq; exact hq)
          | (rw [z2 c_229 c_238] at hq; exact hq)
          | (rw [z3 c_229 c_238] at hq; exact hq)
        · refine J_iload (i := 5) (n := 243) dX7_ask_241 rfl rfl ?_
          refine J_goto (tgt := 248) dX7_ask_243 (by decide) ?_
          refine J_iret dX7_ask_248 rfl (kN_i _) ?_
          first
          | (rw [z1 c_229] at hq; rw [c_229] at hq; exact hq)
          | (rw [z2 c_229 c_238] at hq; exact hq)
          | (rw [z3 c_229 c_238] at hq; exact hq)
      · refine J_bipush (n := 234) dX7_ask_232 kB_m4 rfl ?_
        refine J_goto (tgt := 248) dX7_ask_234 (by decide) ?_
        refine J_iret dX7_ask_248 rfl (kN_i _) ?_
        first
        | (rw [z1 c_229] at hq; rw [c_229] at hq; exact hq)
        | (rw [z2 c_229 c_238] at hq; exact hq)
        | (rw [z3 c_229 c_238] at hq; exact hq)
    · rw [nI_ltI (by omega) (by omega)] at c_107
      refine J_iconst (n := 111) dX7_ask_110 kI_0 rfl ?_
      refine J_istore (i := 7) (n := 113) (lv' := [(0, _), (1, _), (2, _), (3, _), (4, _), (5, _), (6, _), (7, _)]) dX7_ask_111 (by decide) rfl rfl ?_
      refine J_iconst (n := 114) dX7_ask_113 kI_0 rfl ?_
      refine J_istore (i := 8) (n := 116) (lv' := [(0, _), (1, _), (2, _), (3, _), (4, _), (5, _), (6, _), (7, _), (8, _)]) dX7_ask_114 (by decide) rfl rfl ?_
      refine j_ask7_116 d hC hE (by omega) (fun _ _ => ?_) (C + 1) 0 (by omega) (by omega)
      rw [hwo n (by omega)]
      refine J_iload (i := 7) (n := 206) dX7_ask_204 rfl rfl ?_
      refine J_iload (i := 4) (n := 208) dX7_ask_206 rfl rfl ?_
      refine J_icmp_ge (tgt := 219) (n := 211) dX7_ask_208 (by decide) rfl (fun c_208 => ?_) (fun c_208 => ?_)
      · refine J_inc (i := 6) (n := 222) (lv' := [(0, _), (1, _), (2, _), (3, _), (4, _), (5, _), (6, _), (7, _), (8, _)]) dX7_ask_219 rfl (by decide) rfl rfl ?_
        refine J_goto (tgt := 103) dX7_ask_222 (by decide) ?_
        refine J_sub (lv' := [(0, _), (1, _), (2, _), (3, _), (4, _), (5, _), (6, _)]) (fun q hq => List.mem_append_left [(7, _), (8, _)] hq) ?_
        have h0 := ihu (n + 1) (by omega) (by omega)
        first
        | (rw [hr] at h0
           exact h0)
        | (rw [nI_leI (by omega) (by omega)] at c_208
           have hr : ak F D (n + 1) = ak F D n := if_neg (by omega)
           rw [hr] at h0
           exact h0)
      · rw [nI_leI (by omega) (by omega)] at c_208
        have hr : ak F D (n + 1) = (mo F (D n) 12, some n) := if_pos (by omega)
        refine J_iload (i := 7) (n := 213) dX7_ask_211 rfl rfl ?_
        refine J_istore (i := 4) (n := 215) (lv' := [(0, _), (1, _), (2, _), (3, _), (4, _), (5, _), (6, _), (7, _), (8, _)]) dX7_ask_213 (by decide) rfl rfl ?_
        refine J_iload (i := 6) (n := 217) dX7_ask_215 rfl rfl ?_
        refine J_istore (i := 5) (n := 219) (lv' := [(0, _), (1, _), (2, _), (3, _), (4, _), (5, _), (6, _), (7, _), (8, _)]) dX7_ask_217 (by decide) rfl rfl ?_
        refine J_inc (i := 6) (n := 222) (lv' := [(0, _), (1, _), (2, _), (3, _), (4, _), (5, _), (6, _), (7, _), (8, _)]) dX7_ask_219 rfl (by decide) rfl rfl ?_
        refine J_goto (tgt := 103) dX7_ask_222 (by decide) ?_
        refine J_sub (lv' := [(0, _), (1, _), (2, _), (3, _), (4, _), (5, _), (6, _)]) (fun q hq => List.mem_append_left [(7, _), (8, _)] hq) ?_
        have h0 := ihu (n + 1) (by omega) (by omega)
        first
        | (rw [hr] at h0
           exact h0)
        | (rw [nI_leI (by omega) (by omega)] at c_208
           have hr : ak F D (n + 1) = ak F D n := if_neg (by omega)
           rw [hr] at h0
           exact h0)
set_option maxHeartbeats 4000000 in
set_option maxRecDepth 100000 in
theorem j_ask7_48 {G : gx_G} {σ : gs_S} {Q : Option Value → gx_Hp → Prop} {S : pS} (d : Nat) {j C e : Nat} {w : Int32} {v2 : gs_Ob} {E : Nat → Nat} (hC : C ≤ 3) (hj : j < 4) (hwe : ∀ m, m < 21 → v2.1 23 (4 * m + j) = nI (E m)) (k84 : ∀ v3, mR v3 S → (∀ q, q < 21 → v3.1 24 (21 * C + q) = nI (E q)) → (∀ q, q < 21 * C → v3.1 24 q = v2.1 24 q) → gx_J G mX7_ask (d + 12) 0 0 Q 84 [(0, .ref (gs_a G 7 0 0)), (1, .int (nI j)), (2, .int w), (3, .int (nI C)), (4, .int (nI e)), (5, .int (nI 21))] [] (hp G (gs_set σ 7 0 v3))) : ∀ u n v3, 21 - n < u → n ≤ 21 → mR v3 S → v3.1 23 = v2.1 23 → (∀ q, q < n → v3.1 24 (21 * C + q) = nI (E q)) → (∀ q, q < 21 * C → v3.1 24 q = v2.1 24 q) → gx_J G mX7_ask (d + 12) 0 0 Q 48 [(0, .ref (gs_a G 7 0 0)), (1, .int (nI j)), (2, .int w), (3, .int (nI C)), (4, .int (nI e)), (5, .int (nI n))] [] (hp G (gs_set σ 7 0 v3)) := by
  intro u
  induction u with
  | zero => intros; exact absurd (by assumption) (Nat.not_lt_zero _)
  | succ u ihu =>
    intro n v3 hu hn hm3 h23 hlo hold
    refine J_iload (i := 5) (n := 50) dX7_ask_48 rfl rfl ?_
    refine J_bipush (n := 52) dX7_ask_50 kB_20 rfl ?_
    refine J_icmp_gt (tgt := 84) (n := 55) dX7_ask_52 (by decide) rfl (fun c_52 => ?_) (fun c_52 => ?_)
    · rw [nI_ltI (by omega) (by omega)] at c_52
      have ee : n = 21 := by omega
      subst ee
      exact k84 v3 hm3 hlo hold
    · rw [nI_ltI (by omega) (by omega)] at c_52
      have hwn := hwe n (by omega)
      rw [← h23] at hwn
      refine J_aload_n (i := 0) (n := 56) dX7_ask_55 rfl rfl rfl ?_
      refine T_get (k := 24) (n := 59) wk_X7 dX7_ask_56 wf_X7_29 (by decide) (by decide) rfl rfl ?_
      refine J_bipush (n := 61) dX7_ask_59 kB_21 rfl ?_
      refine J_iload_n (i := 3) (n := 62) dX7_ask_61 rfl rfl rfl ?_
      refine J_imul (n := 63) dX7_ask_62 rfl ?_
      rw [pk_mul]
      refine J_iload (i := 5) (n := 65) dX7_ask_63 rfl rfl ?_
      refine J_iadd (n := 66) dX7_ask_65 rfl ?_
      rw [nI_add]
      refine J_aload_n (i := 0) (n := 67) dX7_ask_66 rfl rfl rfl ?_
      refine T_get (k := 23) (n := 70) wk_X7 dX7_ask_67 wf_X7_26 (by decide) (by decide) rfl rfl ?_
      refine J_iconst (n := 71) dX7_ask_70 kI_4 rfl ?_
      refine J_iload (i := 5) (n := 73) dX7_ask_71 rfl rfl ?_
      refine J_imul (n := 74) dX7_ask_73 rfl ?_
      rw [pk_mul]
      refine J_iload_n (i := 1) (n := 75) dX7_ask_74 rfl rfl rfl ?_
      refine J_iadd (n := 76) dX7_ask_75 rfl ?_
      rw [nI_add]
      refine T_iald (c := 7) (k := 23) (N := 84) (n := 77) dX7_ask_76 (by decide) (by decide) rfl (vp_in_nI (by omega) (by decide)) rfl ?_
      rw [nI_clamp (by omega), hwn]
      refine T_iast (c := 7) (k := 24) (N := 84) (n := 78) dX7_ask_77 (by decide) (by decide) (fun _ => rfl) (vp_in_nI (by omega) (by decide)) rfl ?_
      rw [nI_clamp (by omega)]
      refine J_inc (i := 5) (n := 81) (lv' := [(0, _), (1, _), (2, _), (3, _), (4, _), (5, _)]) dX7_ask_78 rfl (by decide) rfl rfl ?_
      refine J_goto (tgt := 48) dX7_ask_81 (by decide) ?_
      refine ihu (n + 1) _ (by omega) (by omega) (hm3.q (mQ.w _ 24 _ (by omega))) (by rw [gs_wn _ _ (by decide)]; exact h23) (fun q hq0 => ?_) (fun q hq0 => ?_)
      · by_cases eq : q = n
        · subst eq; rw [gs_wk, pk_us]
        · rw [gs_wk, pk_un (by omega)]; exact hlo q (by omega)
      · rw [gs_wk, pk_un (by omega)]; exact hold q hq0
set_option maxHeartbeats 4000000 in
set_option maxRecDepth 100000 in
theorem c_N_ask {G : gx_G} {σ : gs_S} {Q : Option Value → gx_Hp → Prop} {S : pS} {v : gs_Ob} (d : Nat) (g w : Int32) (hS : SOk S) (hm : mR v S) (hq : ∀ v1, mR v1 S → Q (some (.int (sp_ask S g w))) (hp G (gs_set σ 7 0 v1))) : gx_K G yX7_ask mX7_ask (d + 12) 0 0 [.ref (gs_a G 7 0 0), .int g, .int w] (hp G (gs_set σ 7 0 v)) Q := by
  obtain ⟨⟨ha, hsn, hgl⟩, hkm, htp, hft, hsh⟩ := id hm
  have hO := hS.1.1
  have hB := hO.aB
  have h4 : S.1.1.2.2 6 ≤ 4 := hO.2.2.2.2.1
  have h6 : S.1.1.2.2 7 ≤ 6 := hO.2.2.2.2.2.1
  have hm11 : S.1.1.2.2 8 ≤ 11 := hO.2.2.2.2.2.2.1
  have hn9 : S.1.1.2.2 9 ≤ 9999 := hO.2.2.2.2.2.2.2
  have hd9 : S.1.1.2.2 10 ≤ 999 := hS.1.2.2.1
  have h160 : S.2.2.2.1.2 ≤ 160 := hS.2.2.1.1
  have e28 := ha.2.2.2.1
  have e29 := ha.2.2.2.2.1
  have e36 := ha.2.2.2.2.2.1
  have e37 := ha.2.2.2.2.2.2
  have g0 : gs_set σ 7 0 v 7 0 = v := gs_same _ _ _ _
  have hgl0 : (gs_set σ 7 0 v 7 0).2.1 3 = nI (S.1.1.2.2 6) := by rw [g0]; exact hgl
  have ha0 : aR ((gs_set σ 7 0 v 7 0).1 0) S.1.1 := by rw [g0]; exact ha
  refine gx_K.of' (lv := [(0, _), (1, _), (2, _)]) (by decide) rfl (by decide) (Nat.le_of_ble_eq_true rfl) rfl ?_
  refine J_aload_n (i := 0) (n := 1) dX7_ask_0 rfl rfl rfl ?_
  refine J_iload_n (i := 1) (n := 2) dX7_ask_1 rfl rfl rfl ?_
  refine J_callVr (n := 5) wS_X7_isGlove (c_M_isGlove (d + 10) g (S.1.1.2.2 6) hgl0 (by omega) ⟨rfl, rfl⟩) dX7_ask_2 wm_X7_210 ⟨wM_X7_isGlove, wV_X7_isGlove⟩ rfl (T_recv (by decide) (by decide)) rfl rfl (Nat.le_of_ble_eq_true rfl) rfl ?_
  refine J_if_eq (tgt := 15) (n := 8) dX7_ask_5 (by decide) rfl (fun c_5 => ?_) (fun c_5 => ?_)
  · refine J_iconst (n := 16) dX7_ask_15 kI_m1 rfl ?_
    refine J_iret dX7_ask_16 rfl (kN_i _) ?_
    unfold sp_ask at hq
    rw [if_neg (by
      first
      | (rw [nb_0] at c_5; rw [show isG S g = false from c_5, Bool.false_and]; decide)
      | (rw [nb_0] at c_12; rw [c_12, Bool.and_false]; decide))] at hq
    exact hq v hm
  · refine J_iload_n (i := 2) (n := 9) dX7_ask_8 rfl rfl rfl ?_
    refine J_callSr (n := 12) wS_X7_isPart (c_M_isPart (d + 10) w ⟨rfl, rfl⟩) dX7_ask_9 wm_X7_216 wT_X7_isPart rfl rfl (Nat.le_of_ble_eq_true rfl) rfl ?_
    refine J_if_ne (tgt := 17) (n := 15) dX7_ask_12 (by decide) rfl (fun c_12 => ?_) (fun c_12 => ?_)
    · rw [nb_t] at c_5 c_12
      unfold sp_ask at hq
      rw [if_pos (by rw [show isG S g = true from c_5, c_12]; rfl)] at hq
      obtain ⟨j, hj, rfl⟩ := isG_of (S := S) c_5 hO
      rw [nat_nI (by omega)] at hq
      refine J_iconst (n := 18) dX7_ask_17 kI_0 rfl ?_
      refine J_istore_n (i := 3) (n := 19) (lv' := [(0, _), (1, _), (2, _), (3, _)]) dX7_ask_18 rfl (by decide) rfl rfl ?_
      refine J_iconst (n := 20) dX7_ask_19 kI_0 rfl ?_
      refine J_istore (i := 4) (n := 22) (lv' := [(0, _), (1, _), (2, _), (3, _), (4, _)]) dX7_ask_20 (by decide) rfl rfl ?_
      have la : ∀ u e v1, 4 - e < u → e ≤ 4 → mR v1 S → (∀ k, k < e → (Fk S 1 j) k = true → ∀ n, n < 21 → v1.1 24 (21 * cu (Fk S 1 j) k + n) = nI (Dk S j n k)) → gx_J G mX7_ask (d + 12) 0 0 Q 22 [(0, .ref (gs_a G 7 0 0)), (1, .int (nI j)), (2, .int w), (3, .int (nI (cu (Fk S 1 j) e))), (4, .int (nI e))] [] (hp G (gs_set σ 7 0 v1)) := by
        intro u
        induction u with
        | zero => intros; exact absurd (by assumption) (Nat.not_lt_zero _)
        | succ u ihu =>
          intro e v1 hu he hm1 hbk
          have hcu := cu_le (Fk S 1 j) e
          have hcs : cu (Fk S 1 j) (e + 1) = cu (Fk S 1 j) e + ((Fk S 1 j) e).toNat := rfl
          refine J_iload (i := 4) (n := 24) dX7_ask_22 rfl rfl ?_
          refine J_iconst (n := 25) dX7_ask_24 kI_4 rfl ?_
          refine J_icmp_ge (tgt := 93) (n := 28) dX7_ask_25 (by decide) rfl (fun c_25 => ?_) (fun c_25 => ?_)
          · rw [nI_leI (by omega) (by omega)] at c_25
            have ee : e = 4 := by omega
            subst ee
            refine J_iload_n (i := 3) (n := 94) dX7_ask_93 rfl rfl rfl ?_
            refine J_istore (i := 4) (n := 96) (lv' := [(0, _), (1, _), (2, _), (3, _), (4, _)]) dX7_ask_94 (by decide) rfl rfl ?_
            refine J_bipush (n := 98) dX7_ask_96 kB_m4 rfl ?_
            refine J_istore (i := 5) (n := 100) (lv' := [(0, _), (1, _), (2, _), (3, _), (4, _), (5, _)]) dX7_ask_98 (by decide) rfl rfl ?_
            refine J_iconst (n := 101) dX7_ask_100 kI_0 rfl ?_
            refine J_istore (i := 6) (n := 103) (lv' := [(0, _), (1, _), (2, _), (3, _), (4, _), (5, _), (6, _)]) dX7_ask_101 (by decide) rfl rfl ?_
            refine j_ask7_103 (F := (Fk S 1 j)) (D := Dk S j) (E := fun n a => nat (v1.1 24 (21 * a + n))) d hcu (fun n a hn ha => ?_) (fun n hn => ?_) (hq v1 hm1) 22 0 (by omega) (by omega)
            · obtain ⟨k, hk, hf, rfl⟩ := cu_ex ha
              have h11 : Dk S j n k ≤ 11 := ((pw_days_ok (pw_a_ok hO (by omega)) n).2.1 j (by rw [pw_days_f _ _ _ (by decide) (by decide) (by decide)]; exact hj)).2.1
              have h0 := hbk k hk hf n (by omega)
              rw [h0, nat_nI (by omega)]
              exact ⟨rfl, h11⟩
            · refine wo_mo (fun k hk hf => ?_)
              have h11 : Dk S j n k ≤ 11 := ((pw_days_ok (pw_a_ok hO (by omega)) n).2.1 j (by rw [pw_days_f _ _ _ (by decide) (by decide) (by decide)]; exact hj)).2.1
              rw [hbk k hk hf n (by omega), nat_nI (by omega)]
              exact ⟨rfl, h11⟩
          · rw [nI_leI (by omega) (by omega)] at c_25
            refine J_aload_n (i := 0) (n := 29) dX7_ask_28 rfl rfl rfl ?_
            refine J_bipush (n := 31) dX7_ask_29 kB_12 rfl ?_
            refine J_iconst (n := 32) dX7_ask_31 kI_4 rfl ?_
            refine J_iload_n (i := 1) (n := 33) dX7_ask_32 rfl rfl rfl ?_
            refine J_imul (n := 34) dX7_ask_33 rfl ?_
            rw [pk_mul]
            refine J_iadd (n := 35) dX7_ask_34 rfl ?_
            rw [nI_add]
            refine J_iconst (n := 36) dX7_ask_35 kI_0 rfl ?_
            refine J_iadd (n := 37) dX7_ask_36 rfl ?_
            rw [nI_add]
            refine J_iload (i := 4) (n := 39) dX7_ask_37 rfl rfl ?_
            refine J_callVx (n := 42) wS_X7_isSoWith (c_M_isSoWith (Q := fun r h => r = some (.int (nI ((Fk S 1 j) e).toNat)) ∧ ∃ v2, mR v2 S ∧ v2.1 24 = v1.1 24 ∧ wer v2 (pw_a S.1.1 1 j e) 21 ∧ h = hp G (gs_set σ 7 0 v2)) (d + 4) (j := j) (k := 0) (e := e) hS hm1 hj (Or.inl ⟨rfl, by omega⟩) (fun v2 h2 h3 h5 => ⟨rfl, v2, h2, h3, h5, rfl⟩)) dX7_ask_39 wm_X7_295 ⟨wM_X7_isSoWith, wV_X7_isSoWith⟩ rfl (T_recv (by decide) (by decide)) rfl rfl (Nat.le_of_ble_eq_true rfl) rfl (fun r h1 hq1 => ?_)
            obtain ⟨rfl, v2, hm2, h24, hwe, rfl⟩ := hq1
            refine J_if_eq (tgt := 87) (n := 45) dX7_ask_42 (by decide) rfl (fun c_42 => ?_) (fun c_42 => ?_)
            · refine J_inc (i := 4) (n := 90) (lv' := [(0, _), (1, _), (2, _), (3, _), (4, _)]) dX7_ask_87 rfl (by decide) rfl rfl ?_
              refine J_goto (tgt := 22) dX7_ask_90 (by decide) ?_
              have hfe := (nb_0 _).mp c_42
              rw [hfe] at hcs
              have h0 := ihu (e + 1) v2 (by omega) (by omega) hm2 (fun k hk hf n hn => by
                by_cases ek : k = e
                · subst ek; rw [hfe] at hf; cases hf
                · rw [h24]; exact hbk k (by omega) hf n hn)
              rw [hcs] at h0
              exact h0
            · have hfe := (nb_t _).mp c_42
              rw [hfe] at hcs
              refine J_iconst (n := 46) dX7_ask_45 kI_0 rfl ?_
              refine J_istore (i := 5) (n := 48) (lv' := [(0, _), (1, _), (2, _), (3, _), (4, _), (5, _)]) dX7_ask_46 (by decide) rfl rfl ?_
              refine j_ask7_48 (v2 := v2) (E := fun m => Dk S j m e) d (by omega) (by omega) (fun m hm0 => hwe m hm0 j hj) (fun v3 hm3 hlo hold => ?_) 22 0 v2 (by omega) (by omega) hm2 rfl (fun q hq0 => absurd hq0 (Nat.not_lt_zero _)) (fun _ _ => rfl)
              refine J_inc (i := 3) (n := 87) (lv' := [(0, _), (1, _), (2, _), (3, _), (4, _), (5, _)]) dX7_ask_84 rfl (by decide) rfl rfl ?_
              refine J_inc (i := 4) (n := 90) (lv' := [(0, _), (1, _), (2, _), (3, _), (4, _), (5, _)]) dX7_ask_87 rfl (by decide) rfl rfl ?_
              refine J_goto (tgt := 22) dX7_ask_90 (by decide) ?_
              refine J_sub (lv' := [(0, _), (1, _), (2, _), (3, _), (4, _)]) (fun q hq => List.mem_append_left [(5, _)] hq) ?_
              have h0 := ihu (e + 1) v3 (by omega) (by omega) hm3 (fun k hk hf n hn => by
                by_cases ek : k = e
                · subst ek; exact hlo n hn
                · have hmo := cu_mono (show k < e by omega) hf
                  rw [hold _ (by omega), h24]; exact hbk k (by omega) hf n hn)
              rw [hcs] at h0
              exact h0
      exact la 5 0 v (by omega) (by omega) hm (fun k hk => absurd hk (Nat.not_lt_zero _))
    · refine J_iconst (n := 16) dX7_ask_15 kI_m1 rfl ?_
      refine J_iret dX7_ask_16 rfl (kN_i _) ?_
      unfold sp_ask at hq
      rw [if_neg (by
        first
        | (rw [nb_0] at c_5; rw [show isG S g = false from c_5, Bool.false_and]; decide)
        | (rw [nb_0] at c_12; rw [c_12, Bool.and_false]; decide))] at hq
      exact hq v hm

