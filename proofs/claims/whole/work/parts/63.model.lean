def dE (t : Nat → Nat) (L p a : Nat) : Bool := decide (bA t L p = nI a)
def isv (t : Nat → Nat) (L b e n a0 a1 a2 : Nat) : Bool := decide (e - b = n) && (dE t L b a0 && (dE t L (b + 1) a1 && dE t L (b + 2) a2))
def env (t : Nat → Nat) (L b a0 a1 a2 : Nat) : Bool := dE t L (b + 3) a0 && ((decide (a1 = 0) || dE t L (b + 4) a1) && (decide (a2 = 0) || dE t L (b + 5) a2))
theorem dE_in {t : Nat → Nat} {L p a : Nat} (ht : tOk t L) (h : p < L) (ha : a < 2 ^ 30) : dE t L p a = decide (t p = a) := by
  unfold dE
  rw [decide_eq_decide, bA_eq ht ha]
  exact ⟨fun q => q.2, fun q => ⟨h, q⟩⟩
def wI (w : Nat) : Int32 := if w = 7 then -4 else nI w
theorem spl_0 {t : Nat → Nat} {L b e : Nat} (ht : tOk t L) (he : e ≤ L) {i n a0 a1 a2 : Nat} (hw : wsp i = [a0, a1, a2]) (hn : n = 3) (h0 : a0 < 2 ^ 30) (h1 : a1 < 2 ^ 30) (h2 : a2 < 2 ^ 30) : isv t L b e n a0 a1 a2 = spl t b e i := by
  subst hn
  unfold isv spl
  rw [hw]
  by_cases h : e - b = 3
  · rw [decide_eq_true h, show decide (e - b = ([a0, a1, a2] : List Nat).length) = true from decide_eq_true h, dE_in ht (by omega) h0, dE_in ht (by omega) h1, dE_in ht (by omega) h2]
    simp [eqs, Nat.add_assoc]
  · rw [decide_eq_false h, show decide (e - b = ([a0, a1, a2] : List Nat).length) = false from decide_eq_false h]
    rfl
theorem spl_6 {t : Nat → Nat} {L b e : Nat} (ht : tOk t L) (he : e ≤ L) {i a0 a1 a2 a3 a4 a5 : Nat} (hw : wsp i = [a0, a1, a2, a3, a4, a5]) (h0 : a0 < 2 ^ 30) (h1 : a1 < 2 ^ 30) (h2 : a2 < 2 ^ 30) (h3 : a3 < 2 ^ 30) (h4 : a4 < 2 ^ 30) (h5 : a5 < 2 ^ 30) (z4 : ¬ a4 = 0) (z5 : ¬ a5 = 0) : (isv t L b e 6 a0 a1 a2 && env t L b a3 a4 a5) = spl t b e i := by
  unfold isv env spl
  rw [hw]
  by_cases h : e - b = 6
  · rw [decide_eq_true h, show decide (e - b = ([a0, a1, a2, a3, a4, a5] : List Nat).length) = true from decide_eq_true h, dE_in ht (by omega) h0, dE_in ht (by omega) h1, dE_in ht (by omega) h2, dE_in ht (by omega) h3, dE_in ht (by omega) h4, dE_in ht (by omega) h5, decide_eq_false z4, decide_eq_false z5]
    simp [eqs, Nat.add_assoc, Bool.and_assoc]
  · rw [decide_eq_false h, show decide (e - b = ([a0, a1, a2, a3, a4, a5] : List Nat).length) = false from decide_eq_false h]
    rfl
theorem spl_5 {t : Nat → Nat} {L b e : Nat} (ht : tOk t L) (he : e ≤ L) {i a0 a1 a2 a3 a4 : Nat} (hw : wsp i = [a0, a1, a2, a3, a4]) (h0 : a0 < 2 ^ 30) (h1 : a1 < 2 ^ 30) (h2 : a2 < 2 ^ 30) (h3 : a3 < 2 ^ 30) (h4 : a4 < 2 ^ 30) (z4 : ¬ a4 = 0) : (isv t L b e 5 a0 a1 a2 && env t L b a3 a4 0) = spl t b e i := by
  unfold isv env spl
  rw [hw]
  by_cases h : e - b = 5
  · rw [decide_eq_true h, show decide (e - b = ([a0, a1, a2, a3, a4] : List Nat).length) = true from decide_eq_true h, dE_in ht (by omega) h0, dE_in ht (by omega) h1, dE_in ht (by omega) h2, dE_in ht (by omega) h3, dE_in ht (by omega) h4, decide_eq_false z4]
    simp [eqs, Nat.add_assoc, Bool.and_assoc]
  · rw [decide_eq_false h, show decide (e - b = ([a0, a1, a2, a3, a4] : List Nat).length) = false from decide_eq_false h]
    rfl
theorem spl_4 {t : Nat → Nat} {L b e : Nat} (ht : tOk t L) (he : e ≤ L) {i a0 a1 a2 a3 : Nat} (hw : wsp i = [a0, a1, a2, a3]) (h0 : a0 < 2 ^ 30) (h1 : a1 < 2 ^ 30) (h2 : a2 < 2 ^ 30) (h3 : a3 < 2 ^ 30) : (isv t L b e 4 a0 a1 a2 && env t L b a3 0 0) = spl t b e i := by
  unfold isv env spl
  rw [hw]
  by_cases h : e - b = 4
  · rw [decide_eq_true h, show decide (e - b = ([a0, a1, a2, a3] : List Nat).length) = true from decide_eq_true h, dE_in ht (by omega) h0, dE_in ht (by omega) h1, dE_in ht (by omega) h2, dE_in ht (by omega) h3]
    simp [eqs, Nat.add_assoc, Bool.and_assoc]
  · rw [decide_eq_false h, show decide (e - b = ([a0, a1, a2, a3] : List Nat).length) = false from decide_eq_false h]
    rfl
theorem wI_if (t : Nat → Nat) (b e : Nat) : wI (wd t b e) = if spl t b e 0 = true then nI 0 else if spl t b e 1 = true then nI 1 else if spl t b e 2 = true then nI 2 else if spl t b e 3 = true then nI 3 else if spl t b e 4 = true then nI 4 else if spl t b e 5 = true then nI 5 else if spl t b e 6 = true then nI 6 else -4 := by
  show wI (if spl t b e 0 = true then 0 else if spl t b e 1 = true then 1 else if spl t b e 2 = true then 2 else if spl t b e 3 = true then 3 else if spl t b e 4 = true then 4 else if spl t b e 5 = true then 5 else if spl t b e 6 = true then 6 else 7) = _
  split
  · rfl
  · split
    · rfl
    · split
      · rfl
      · split
        · rfl
        · split
          · rfl
          · split
            · rfl
            · split <;> rfl
set_option maxHeartbeats 4000000 in
set_option maxRecDepth 100000 in
theorem c_M_is {G : gx_G} {σ : gs_S} {Q : Option Value → gx_Hp → Prop} {v : gs_Ob} {t : Nat → Nat} {L : Nat} (d : Nat) (ht : tOk t L) (hv : mtp v t L) {b e : Nat} (hbe : b ≤ e) (heL : e ≤ L) (h12 : v.2.1 12 = nI e) (h13 : v.2.1 13 = nI b) {n a0 a1 a2 : Nat} (hn : n < 2 ^ 30) (hq : Q (some (.int (nI (isv t L b e n a0 a1 a2).toNat))) (hp G (gs_set σ 7 0 v))) : gx_K G yX7_is mX7_is (d + 1) 0 0 [.ref (gs_a G 7 0 0), .int (nI n), .int (nI a0), .int (nI a1), .int (nI a2)] (hp G (gs_set σ 7 0 v)) Q := by
  have hL := ht.1
  unfold isv at hq
  refine gx_K.of' (lv := [(0, _), (1, _), (2, _), (3, _), (4, _)]) (by decide) rfl (by decide) (Nat.le_of_ble_eq_true rfl) rfl ?_
  refine J_aload_n (i := 0) (n := 1) dX7_is_0 rfl rfl rfl ?_
  refine T_get (k := 12) (n := 4) wk_X7 dX7_is_1 wf_X7_88 (by decide) (by decide) rfl rfl ?_
  rw [h12]
  refine J_aload_n (i := 0) (n := 5) dX7_is_4 rfl rfl rfl ?_
  refine T_get (k := 13) (n := 8) wk_X7 dX7_is_5 wf_X7_82 (by decide) (by decide) rfl rfl ?_
  rw [h13]
  refine J_isub (n := 9) dX7_is_8 rfl ?_
  rw [pk_sub hbe]
  refine J_iload_n (i := 1) (n := 10) dX7_is_9 rfl rfl rfl ?_
  refine J_icmp_ne (tgt := 58) (n := 13) dX7_is_10 (by decide) rfl (fun c_10 => ?_) (fun c_10 => ?_)
  · refine J_iconst (n := 59) dX7_is_58 kI_0 rfl ?_
    refine J_iret dX7_is_59 rfl (by first | exact kN_0 | exact kN_1) ?_
    try rw [nI_eq (by omega) (by omega)] at c_10
    first
    | (rw [decide_eq_false c_10, Bool.false_and] at hq; exact hq)
    | (rw [show dE t L b a0 = false from decide_eq_false c_22, Bool.false_and, Bool.and_false] at hq; exact hq)
    | (rw [show dE t L (b + 1) a1 = false from decide_eq_false c_36, Bool.false_and, Bool.and_false, Bool.and_false] at hq; exact hq)
    | (rw [show dE t L (b + 2) a2 = false from decide_eq_false c_51, Bool.and_false, Bool.and_false, Bool.and_false] at hq; exact hq)
    | (rw [decide_eq_true c_10, show dE t L b a0 = true from decide_eq_true c_22, show dE t L (b + 1) a1 = true from decide_eq_true c_36, show dE t L (b + 2) a2 = true from decide_eq_true c_51] at hq; exact hq)
  · refine J_aload_n (i := 0) (n := 14) dX7_is_13 rfl rfl rfl ?_
    refine J_aload_n (i := 0) (n := 15) dX7_is_14 rfl rfl rfl ?_
    refine T_get (k := 13) (n := 18) wk_X7 dX7_is_15 wf_X7_82 (by decide) (by decide) rfl rfl ?_
    rw [h13]
    refine J_callVr (n := 21) wS_X7_byteAt (c_M_byteAt (d) (p := b) (by omega) ht hv ⟨rfl, rfl⟩) dX7_is_18 wm_X7_91 ⟨wM_X7_byteAt, wV_X7_byteAt⟩ rfl (T_recv (by decide) (by decide)) rfl rfl (Nat.le_of_ble_eq_true rfl) rfl ?_
    refine J_iload_n (i := 2) (n := 22) dX7_is_21 rfl rfl rfl ?_
    refine J_icmp_ne (tgt := 58) (n := 25) dX7_is_22 (by decide) rfl (fun c_22 => ?_) (fun c_22 => ?_)
    · refine J_iconst (n := 59) dX7_is_58 kI_0 rfl ?_
      refine J_iret dX7_is_59 rfl (by first | exact kN_0 | exact kN_1) ?_
      try rw [nI_eq (by omega) (by omega)] at c_10
      first
      | (rw [decide_eq_false c_10, Bool.false_and] at hq; exact hq)
      | (rw [show dE t L b a0 = false from decide_eq_false c_22, Bool.false_and, Bool.and_false] at hq; exact hq)
      | (rw [show dE t L (b + 1) a1 = false from decide_eq_false c_36, Bool.false_and, Bool.and_false, Bool.and_false] at hq; exact hq)
      | (rw [show dE t L (b + 2) a2 = false from decide_eq_false c_51, Bool.and_false, Bool.and_false, Bool.and_false] at hq; exact hq)
      | (rw [decide_eq_true c_10, show dE t L b a0 = true from decide_eq_true c_22, show dE t L (b + 1) a1 = true from decide_eq_true c_36, show dE t L (b + 2) a2 = true from decide_eq_true c_51] at hq; exact hq)
    · refine J_aload_n (i := 0) (n := 26) dX7_is_25 rfl rfl rfl ?_
      refine J_aload_n (i := 0) (n := 27) dX7_is_26 rfl rfl rfl ?_
      refine T_get (k := 13) (n := 30) wk_X7 dX7_is_27 wf_X7_82 (by decide) (by decide) rfl rfl ?_
      rw [h13]
      refine J_iconst (n := 31) dX7_is_30 kI_1 rfl ?_
      refine J_iadd (n := 32) dX7_is_31 rfl ?_
      rw [nI_add]
      refine J_callVr (n := 35) wS_X7_byteAt (c_M_byteAt (d) (p := b + 1) (by omega) ht hv ⟨rfl, rfl⟩) dX7_is_32 wm_X7_91 ⟨wM_X7_byteAt, wV_X7_byteAt⟩ rfl (T_recv (by decide) (by decide)) rfl rfl (Nat.le_of_ble_eq_true rfl) rfl ?_
      refine J_iload_n (i := 3) (n := 36) dX7_is_35 rfl rfl rfl ?_
      refine J_icmp_ne (tgt := 58) (n := 39) dX7_is_36 (by decide) rfl (fun c_36 => ?_) (fun c_36 => ?_)
      · refine J_iconst (n := 59) dX7_is_58 kI_0 rfl ?_
        refine J_iret dX7_is_59 rfl (by first | exact kN_0 | exact kN_1) ?_
        try rw [nI_eq (by omega) (by omega)] at c_10
        first
        | (rw [decide_eq_false c_10, Bool.false_and] at hq; exact hq)
        | (rw [show dE t L b a0 = false from decide_eq_false c_22, Bool.false_and, Bool.and_false] at hq; exact hq)
        | (rw [show dE t L (b + 1) a1 = false from decide_eq_false c_36, Bool.false_and, Bool.and_false, Bool.and_false] at hq; exact hq)
        | (rw [show dE t L (b + 2) a2 = false from decide_eq_false c_51, Bool.and_false, Bool.and_false, Bool.and_false] at hq; exact hq)
        | (rw [decide_eq_true c_10, show dE t L b a0 = true from decide_eq_true c_22, show dE t L (b + 1) a1 = true from decide_eq_true c_36, show dE t L (b + 2) a2 = true from decide_eq_true c_51] at hq; exact hq)
      · refine J_aload_n (i := 0) (n := 40) dX7_is_39 rfl rfl rfl ?_
        refine J_aload_n (i := 0) (n := 41) dX7_is_40 rfl rfl rfl ?_
        refine T_get (k := 13) (n := 44) wk_X7 dX7_is_41 wf_X7_82 (by decide) (by decide) rfl rfl ?_
        rw [h13]
        refine J_iconst (n := 45) dX7_is_44 kI_2 rfl ?_
        refine J_iadd (n := 46) dX7_is_45 rfl ?_
        rw [nI_add]
        refine J_callVr (n := 49) wS_X7_byteAt (c_M_byteAt (d) (p := b + 2) (by omega) ht hv ⟨rfl, rfl⟩) dX7_is_46 wm_X7_91 ⟨wM_X7_byteAt, wV_X7_byteAt⟩ rfl (T_recv (by decide) (by decide)) rfl rfl (Nat.le_of_ble_eq_true rfl) rfl ?_
        refine J_iload (i := 4) (n := 51) dX7_is_49 rfl rfl ?_
        refine J_icmp_ne (tgt := 58) (n := 54) dX7_is_51 (by decide) rfl (fun c_51 => ?_) (fun c_51 => ?_)
        · refine J_iconst (n := 59) dX7_is_58 kI_0 rfl ?_
          refine J_iret dX7_is_59 rfl (by first | exact kN_0 | exact kN_1) ?_
          try rw [nI_eq (by omega) (by omega)] at c_10
          first
          | (rw [decide_eq_false c_10, Bool.false_and] at hq; exact hq)
          | (rw [show dE t L b a0 = false from decide_eq_false c_22, Bool.false_and, Bool.and_false] at hq; exact hq)
          | (rw [show dE t L (b + 1) a1 = false from decide_eq_false c_36, Bool.false_and, Bool.and_false, Bool.and_false] at hq; exact hq)
          | (rw [show dE t L (b + 2) a2 = false from decide_eq_false c_51, Bool.and_false, Bool.and_false, Bool.and_false] at hq; exact hq)
          | (rw [decide_eq_true c_10, show dE t L b a0 = true from decide_eq_true c_22, show dE t L (b + 1) a1 = true from decide_eq_true c_36, show dE t L (b + 2) a2 = true from decide_eq_true c_51] at hq; exact hq)
        · refine J_iconst (n := 55) dX7_is_54 kI_1 rfl ?_
          refine J_goto (tgt := 59) dX7_is_55 (by decide) ?_
          refine J_iret dX7_is_59 rfl (by first | exact kN_0 | exact kN_1) ?_
          try rw [nI_eq (by omega) (by omega)] at c_10
          first
          | (rw [decide_eq_false c_10, Bool.false_and] at hq; exact hq)
          | (rw [show dE t L b a0 = false from decide_eq_false c_22, Bool.false_and, Bool.and_false] at hq; exact hq)
          | (rw [show dE t L (b + 1) a1 = false from decide_eq_false c_36, Bool.false_and, Bool.and_false, Bool.and_false] at hq; exact hq)
          | (rw [show dE t L (b + 2) a2 = false from decide_eq_false c_51, Bool.and_false, Bool.and_false, Bool.and_false] at hq; exact hq)
          | (rw [decide_eq_true c_10, show dE t L b a0 = true from decide_eq_true c_22, show dE t L (b + 1) a1 = true from decide_eq_true c_36, show dE t L (b + 2) a2 = true from decide_eq_true c_51] at hq; exact hq)

set_option maxHeartbeats 4000000 in
set_option maxRecDepth 100000 in
theorem c_M_endsIn {G : gx_G} {σ : gs_S} {Q : Option Value → gx_Hp → Prop} {v : gs_Ob} {t : Nat → Nat} {L : Nat} (d : Nat) (ht : tOk t L) (hv : mtp v t L) {b e : Nat} (hbe : b ≤ e) (heL : e ≤ L) (h12 : v.2.1 12 = nI e) (h13 : v.2.1 13 = nI b) {a0 a1 a2 : Nat} (ha1 : a1 < 2 ^ 30) (ha2 : a2 < 2 ^ 30) (hq : Q (some (.int (nI (env t L b a0 a1 a2).toNat))) (hp G (gs_set σ 7 0 v))) : gx_K G yX7_endsIn mX7_endsIn (d + 1) 0 0 [.ref (gs_a G 7 0 0), .int (nI a0), .int (nI a1), .int (nI a2)] (hp G (gs_set σ 7 0 v)) Q := by
  have hL := ht.1
  unfold env at hq
  refine gx_K.of' (lv := [(0, _), (1, _), (2, _), (3, _)]) (by decide) rfl (by decide) (Nat.le_of_ble_eq_true rfl) rfl ?_
  refine J_aload_n (i := 0) (n := 1) dX7_endsIn_0 rfl rfl rfl ?_
  refine J_aload_n (i := 0) (n := 2) dX7_endsIn_1 rfl rfl rfl ?_
  refine T_get (k := 13) (n := 5) wk_X7 dX7_endsIn_2 wf_X7_82 (by decide) (by decide) rfl rfl ?_
  rw [h13]
  refine J_iconst (n := 6) dX7_endsIn_5 kI_3 rfl ?_
  refine J_iadd (n := 7) dX7_endsIn_6 rfl ?_
  rw [nI_add]
  refine J_callVr (n := 10) wS_X7_byteAt (c_M_byteAt (d) (p := b + 3) (by omega) ht hv ⟨rfl, rfl⟩) dX7_endsIn_7 wm_X7_91 ⟨wM_X7_byteAt, wV_X7_byteAt⟩ rfl (T_recv (by decide) (by decide)) rfl rfl (Nat.le_of_ble_eq_true rfl) rfl ?_
  refine J_iload_n (i := 1) (n := 11) dX7_endsIn_10 rfl rfl rfl ?_
  refine J_icmp_ne (tgt := 54) (n := 14) dX7_endsIn_11 (by decide) rfl (fun c_11 => ?_) (fun c_11 => ?_)
  · refine J_iconst (n := 55) dX7_endsIn_54 kI_0 rfl ?_
    refine J_iret dX7_endsIn_55 rfl (by first | exact kN_0 | exact kN_1) ?_
    try rw [nI_k0 (by omega)] at c_15
    try rw [nI_k0 (by omega)] at c_33
    first
    | (rw [show dE t L (b + 3) a0 = false from decide_eq_false c_11, Bool.false_and] at hq; exact hq)
    | (rw [decide_eq_false c_15, show dE t L (b + 4) a1 = false from decide_eq_false c_29, Bool.false_or, Bool.false_and, Bool.and_false] at hq; exact hq)
    | (rw [decide_eq_false c_33, show dE t L (b + 5) a2 = false from decide_eq_false c_47, Bool.false_or, Bool.and_false, Bool.and_false] at hq; exact hq)
    | (have g3 : dE t L (b + 3) a0 = true := decide_eq_true c_11
       have g4 : (decide (a1 = 0) || dE t L (b + 4) a1) = true := by first | (rw [decide_eq_true c_15]; rfl) | (rw [show dE t L (b + 4) a1 = true from decide_eq_true c_29, Bool.or_true])
       have g5 : (decide (a2 = 0) || dE t L (b + 5) a2) = true := by first | (rw [decide_eq_true c_33]; rfl) | (rw [show dE t L (b + 5) a2 = true from decide_eq_true c_47, Bool.or_true])
       rw [g3, g4, g5] at hq
       exact hq)
  · refine J_iload_n (i := 2) (n := 15) dX7_endsIn_14 rfl rfl rfl ?_
    refine J_if_eq (tgt := 32) (n := 18) dX7_endsIn_15 (by decide) rfl (fun c_15 => ?_) (fun c_15 => ?_)
    · refine J_iload_n (i := 3) (n := 33) dX7_endsIn_32 rfl rfl rfl ?_
      refine J_if_eq (tgt := 50) (n := 36) dX7_endsIn_33 (by decide) rfl (fun c_33 => ?_) (fun c_33 => ?_)
      · refine J_iconst (n := 51) dX7_endsIn_50 kI_1 rfl ?_
        refine J_goto (tgt := 55) dX7_endsIn_51 (by decide) ?_
        refine J_iret dX7_endsIn_55 rfl (by first | exact kN_0 | exact kN_1) ?_
        try rw [nI_k0 (by omega)] at c_15
        try rw [nI_k0 (by omega)] at c_33
        first
        | (rw [show dE t L (b + 3) a0 = false from decide_eq_false c_11, Bool.false_and] at hq; exact hq)
        | (rw [decide_eq_false c_15, show dE t L (b + 4) a1 = false from decide_eq_false c_29, Bool.false_or, Bool.false_and, Bool.and_false] at hq; exact hq)
        | (rw [decide_eq_false c_33, show dE t L (b + 5) a2 = false from decide_eq_false c_47, Bool.false_or, Bool.and_false, Bool.and_false] at hq; exact hq)
        | (have g3 : dE t L (b + 3) a0 = true := decide_eq_true c_11
           have g4 : (decide (a1 = 0) || dE t L (b + 4) a1) = true := by first | (rw [decide_eq_true c_15]; rfl) | (rw [show dE t L (b + 4) a1 = true from decide_eq_true c_29, Bool.or_true])
           have g5 : (decide (a2 = 0) || dE t L (b + 5) a2) = true := by first | (rw [decide_eq_true c_33]; rfl) | (rw [show dE t L (b + 5) a2 = true from decide_eq_true c_47, Bool.or_true])
           rw [g3, g4, g5] at hq
           exact hq)
      · refine J_aload_n (i := 0) (n := 37) dX7_endsIn_36 rfl rfl rfl ?_
        refine J_aload_n (i := 0) (n := 38) dX7_endsIn_37 rfl rfl rfl ?_
        refine T_get (k := 13) (n := 41) wk_X7 dX7_endsIn_38 wf_X7_82 (by decide) (by decide) rfl rfl ?_
        rw [h13]
        refine J_iconst (n := 42) dX7_endsIn_41 kI_5 rfl ?_
        refine J_iadd (n := 43) dX7_endsIn_42 rfl ?_
        rw [nI_add]
        refine J_callVr (n := 46) wS_X7_byteAt (c_M_byteAt (d) (p := b + 5) (by omega) ht hv ⟨rfl, rfl⟩) dX7_endsIn_43 wm_X7_91 ⟨wM_X7_byteAt, wV_X7_byteAt⟩ rfl (T_recv (by decide) (by decide)) rfl rfl (Nat.le_of_ble_eq_true rfl) rfl ?_
        refine J_iload_n (i := 3) (n := 47) dX7_endsIn_46 rfl rfl rfl ?_
        refine J_icmp_ne (tgt := 54) (n := 50) dX7_endsIn_47 (by decide) rfl (fun c_47 => ?_) (fun c_47 => ?_)
        · refine J_iconst (n := 55) dX7_endsIn_54 kI_0 rfl ?_
          refine J_iret dX7_endsIn_55 rfl (by first | exact kN_0 | exact kN_1) ?_
          try rw [nI_k0 (by omega)] at c_15
          try rw [nI_k0 (by omega)] at c_33
          first
          | (rw [show dE t L (b + 3) a0 = false from decide_eq_false c_11, Bool.false_and] at hq; exact hq)
          | (rw [decide_eq_false c_15, show dE t L (b + 4) a1 = false from decide_eq_false c_29, Bool.false_or, Bool.false_and, Bool.and_false] at hq; exact hq)
          | (rw [decide_eq_false c_33, show dE t L (b + 5) a2 = false from decide_eq_false c_47, Bool.false_or, Bool.and_false, Bool.and_false] at hq; exact hq)
          | (have g3 : dE t L (b + 3) a0 = true := decide_eq_true c_11
             have g4 : (decide (a1 = 0) || dE t L (b + 4) a1) = true := by first | (rw [decide_eq_true c_15]; rfl) | (rw [show dE t L (b + 4) a1 = true from decide_eq_true c_29, Bool.or_true])
             have g5 : (decide (a2 = 0) || dE t L (b + 5) a2) = true := by first | (rw [decide_eq_true c_33]; rfl) | (rw [show dE t L (b + 5) a2 = true from decide_eq_true c_47, Bool.or_true])
             rw [g3, g4, g5] at hq
             exact hq)
        · refine J_iconst (n := 51) dX7_endsIn_50 kI_1 rfl ?_
          refine J_goto (tgt := 55) dX7_endsIn_51 (by decide) ?_
          refine J_iret dX7_endsIn_55 rfl (by first | exact kN_0 | exact kN_1) ?_
          try rw [nI_k0 (by omega)] at c_15
          try rw [nI_k0 (by omega)] at c_33
          first
          | (rw [show dE t L (b + 3) a0 = false from decide_eq_false c_11, Bool.false_and] at hq; exact hq)
          | (rw [decide_eq_false c_15, show dE t L (b + 4) a1 = false from decide_eq_false c_29, Bool.false_or, Bool.false_and, Bool.and_false] at hq; exact hq)
          | (rw [decide_eq_false c_33, show dE t L (b + 5) a2 = false from decide_eq_false c_47, Bool.false_or, Bool.and_false, Bool.and_false] at hq; exact hq)
          | (have g3 : dE t L (b + 3) a0 = true := decide_eq_true c_11
             have g4 : (decide (a1 = 0) || dE t L (b + 4) a1) = true := by first | (rw [decide_eq_true c_15]; rfl) | (rw [show dE t L (b + 4) a1 = true from decide_eq_true c_29, Bool.or_true])
             have g5 : (decide (a2 = 0) || dE t L (b + 5) a2) = true := by first | (rw [decide_eq_true c_33]; rfl) | (rw [show dE t L (b + 5) a2 = true from decide_eq_true c_47, Bool.or_true])
             rw [g3, g4, g5] at hq
             exact hq)
    · refine J_aload_n (i := 0) (n := 19) dX7_endsIn_18 rfl rfl rfl ?_
      refine J_aload_n (i := 0) (n := 20) dX7_endsIn_19 rfl rfl rfl ?_
      refine T_get (k := 13) (n := 23) wk_X7 dX7_endsIn_20 wf_X7_82 (by decide) (by decide) rfl rfl ?_
      rw [h13]
      refine J_iconst (n := 24) dX7_endsIn_23 kI_4 rfl ?_
      refine J_iadd (n := 25) dX7_endsIn_24 rfl ?_
      rw [nI_add]
      refine J_callVr (n := 28) wS_X7_byteAt (c_M_byteAt (d) (p := b + 4) (by omega) ht hv ⟨rfl, rfl⟩) dX7_endsIn_25 wm_X7_91 ⟨wM_X7_byteAt, wV_X7_byteAt⟩ rfl (T_recv (by decide) (by decide)) rfl rfl (Nat.le_of_ble_eq_true rfl) rfl ?_
      refine J_iload_n (i := 2) (n := 29) dX7_endsIn_28 rfl rfl rfl ?_
      refine J_icmp_ne (tgt := 54) (n := 32) dX7_endsIn_29 (by decide) rfl (fun c_29 => ?_) (fun c_29 => ?_)
      · refine J_iconst (n := 55) dX7_endsIn_54 kI_0 rfl ?_
        refine J_iret dX7_endsIn_55 rfl (by first | exact kN_0 | exact kN_1) ?_
        try rw [nI_k0 (by omega)] at c_15
        try rw [nI_k0 (by omega)] at c_33
        first
        | (rw [show dE t L (b + 3) a0 = false from decide_eq_false c_11, Bool.false_and] at hq; exact hq)
        | (rw [decide_eq_false c_15, show dE t L (b + 4) a1 = false from decide_eq_false c_29, Bool.false_or, Bool.false_and, Bool.and_false] at hq; exact hq)
        | (rw [decide_eq_false c_33, show dE t L (b + 5) a2 = false from decide_eq_false c_47, Bool.false_or, Bool.and_false, Bool.and_false] at hq; exact hq)
        | (have g3 : dE t L (b + 3) a0 = true := decide_eq_true c_11
           have g4 : (decide (a1 = 0) || dE t L (b + 4) a1) = true := by first | (rw [decide_eq_true c_15]; rfl) | (rw [show dE t L (b + 4) a1 = true from decide_eq_true c_29, Bool.or_true])
           have g5 : (decide (a2 = 0) || dE t L (b + 5) a2) = true := by first | (rw [decide_eq_true c_33]; rfl) | (rw [show dE t L (b + 5) a2 = true from decide_eq_true c_47, Bool.or_true])
           rw [g3, g4, g5] at hq
           exact hq)
      · refine J_iload_n (i := 3) (n := 33) dX7_endsIn_32 rfl rfl rfl ?_
        refine J_if_eq (tgt := 50) (n := 36) dX7_endsIn_33 (by decide) rfl (fun c_33 => ?_) (fun c_33 => ?_)
        · refine J_iconst (n := 51) dX7_endsIn_50 kI_1 rfl ?_
          refine J_goto (tgt := 55) dX7_endsIn_51 (by decide) ?_
          refine J_iret dX7_endsIn_55 rfl (by first | exact kN_0 | exact kN_1) ?_
          try rw [nI_k0 (by omega)] at c_15
          try rw [nI_k0 (by omega)] at c_33
          first
          | (rw [show dE t L (b + 3) a0 = false from decide_eq_false c_11, Bool.false_and] at hq; exact hq)
          | (rw [decide_eq_false c_15, show dE t L (b + 4) a1 = false from decide_eq_false c_29, Bool.false_or, Bool.false_and, Bool.and_false] at hq; exact hq)
          | (rw [decide_eq_false c_33, show dE t L (b + 5) a2 = false from decide_eq_false c_47, Bool.false_or, Bool.and_false, Bool.and_false] at hq; exact hq)
          | (have g3 : dE t L (b + 3) a0 = true := decide_eq_true c_11
             have g4 : (decide (a1 = 0) || dE t L (b + 4) a1) = true := by first | (rw [decide_eq_true c_15]; rfl) | (rw [show dE t L (b + 4) a1 = true from decide_eq_true c_29, Bool.or_true])
             have g5 : (decide (a2 = 0) || dE t L (b + 5) a2) = true := by first | (rw [decide_eq_true c_33]; rfl) | (rw [show dE t L (b + 5) a2 = true from decide_eq_true c_47, Bool.or_true])
             rw [g3, g4, g5] at hq
             exact hq)
        · refine J_aload_n (i := 0) (n := 37) dX7_endsIn_36 rfl rfl rfl ?_
          refine J_aload_n (i := 0) (n := 38) dX7_endsIn_37 rfl rfl rfl ?_
          refine T_get (k := 13) (n := 41) wk_X7 dX7_endsIn_38 wf_X7_82 (by decide) (by decide) rfl rfl ?_
          rw [h13]
          refine J_iconst (n := 42) dX7_endsIn_41 kI_5 rfl ?_
          refine J_iadd (n := 43) dX7_endsIn_42 rfl ?_
          rw [nI_add]
          refine J_callVr (n := 46) wS_X7_byteAt (c_M_byteAt (d) (p := b + 5) (by omega) ht hv ⟨rfl, rfl⟩) dX7_endsIn_43 wm_X7_91 ⟨wM_X7_byteAt, wV_X7_byteAt⟩ rfl (T_recv (by decide) (by decide)) rfl rfl (Nat.le_of_ble_eq_true rfl) rfl ?_
          refine J_iload_n (i := 3) (n := 47) dX7_endsIn_46 rfl rfl rfl ?_
          refine J_icmp_ne (tgt := 54) (n := 50) dX7_endsIn_47 (by decide) rfl (fun c_47 => ?_) (fun c_47 => ?_)
          · refine J_iconst (n := 55) dX7_endsIn_54 kI_0 rfl ?_
            refine J_iret dX7_endsIn_55 rfl (by first | exact kN_0 | exact kN_1) ?_
            try rw [nI_k0 (by omega)] at c_15
            try rw [nI_k0 (by omega)] at c_33
            first
            | (rw [show dE t L (b + 3) a0 = false from decide_eq_false c_11, Bool.false_and] at hq; exact hq)
            | (rw [decide_eq_false c_15, show dE t L (b + 4) a1 = false from decide_eq_false c_29, Bool.false_or, Bool.false_and, Bool.and_false] at hq; exact hq)
            | (rw [decide_eq_false c_33, show dE t L (b + 5) a2 = false from decide_eq_false c_47, Bool.false_or, Bool.and_false, Bool.and_false] at hq; exact hq)
            | (have g3 : dE t L (b + 3) a0 = true := decide_eq_true c_11
               have g4 : (decide (a1 = 0) || dE t L (b + 4) a1) = true := by first | (rw [decide_eq_true c_15]; rfl) | (rw [show dE t L (b + 4) a1 = true from decide_eq_true c_29, Bool.or_true])
               have g5 : (decide (a2 = 0) || dE t L (b + 5) a2) = true := by first | (rw [decide_eq_true c_33]; rfl) | (rw [show dE t L (b + 5) a2 = true from decide_eq_true c_47, Bool.or_true])
               rw [g3, g4, g5] at hq
               exact hq)
          · refine J_iconst (n := 51) dX7_endsIn_50 kI_1 rfl ?_
            refine J_goto (tgt := 55) dX7_endsIn_51 (by decide) ?_
            refine J_iret dX7_endsIn_55 rfl (by first | exact kN_0 | exact kN_1) ?_
            try rw [nI_k0 (by omega)] at c_15
            try rw [nI_k0 (by omega)] at c_33
            first
            | (rw [show dE t L (b + 3) a0 = false from decide_eq_false c_11, Bool.false_and] at hq; exact hq)
            | (rw [decide_eq_false c_15, show dE t L (b + 4) a1 = false from decide_eq_false c_29, Bool.false_or, Bool.false_and, Bool.and_false] at hq; exact hq)
            | (rw [decide_eq_false c_33, show dE t L (b + 5) a2 = false from decide_eq_false c_47, Bool.false_or, Bool.and_false, Bool.and_false] at hq; exact hq)
            | (have g3 : dE t L (b + 3) a0 = true := decide_eq_true c_11
               have g4 : (decide (a1 = 0) || dE t L (b + 4) a1) = true := by first | (rw [decide_eq_true c_15]; rfl) | (rw [show dE t L (b + 4) a1 = true from decide_eq_true c_29, Bool.or_true])
               have g5 : (decide (a2 = 0) || dE t L (b + 5) a2) = true := by first | (rw [decide_eq_true c_33]; rfl) | (rw [show dE t L (b + 5) a2 = true from decide_eq_true c_47, Bool.or_true])
               rw [g3, g4, g5] at hq
               exact hq)

set_option maxHeartbeats 4000000 in
set_option maxRecDepth 100000 in
theorem c_M_lineNow {G : gx_G} {σ : gs_S} {Q : Option Value → gx_Hp → Prop} {v : gs_Ob} {t : Nat → Nat} {L : Nat} (d : Nat) (ht : tOk t L) (hv : mtp v t L) {b e : Nat} (hbe : b ≤ e) (heL : e ≤ L) (h12 : v.2.1 12 = nI e) (h13 : v.2.1 13 = nI b) (hq : Q (some (.int (wI (wd t b e)))) (hp G (gs_set σ 7 0 v))) : gx_K G yX7_lineNow mX7_lineNow (d + 2) 0 0 [.ref (gs_a G 7 0 0)] (hp G (gs_set σ 7 0 v)) Q := by
  rw [wI_if] at hq
  have k160 : Q (some (.int (if spl t b e 6 = true then nI 6 else (-4)))) (hp G (gs_set σ 7 0 v)) → gx_J G mX7_lineNow (d + 2) 0 0 Q 160 [(0, .ref (gs_a G 7 0 0))] [] (hp G (gs_set σ 7 0 v)) := by
    intro h0
    refine J_aload_n (i := 0) (n := 161) dX7_lineNow_160 rfl rfl rfl ?_
    refine J_iconst (n := 162) dX7_lineNow_161 kI_3 rfl ?_
    refine J_bipush (n := 164) dX7_lineNow_162 kB_109 rfl ?_
    refine J_bipush (n := 166) dX7_lineNow_164 kB_97 rfl ?_
    refine J_bipush (n := 168) dX7_lineNow_166 kB_110 rfl ?_
    refine J_callVr (n := 171) wS_X7_is (c_M_is (n := 3) (a0 := 109) (a1 := 97) (a2 := 110) d ht hv hbe heL h12 h13 (by decide) ⟨rfl, rfl⟩) dX7_lineNow_168 wm_X7_95 ⟨wM_X7_is, wV_X7_is⟩ rfl (T_recv (by decide) (by decide)) rfl rfl (Nat.le_of_ble_eq_true rfl) rfl ?_
    refine J_if_eq (tgt := 179) (n := 174) dX7_lineNow_171 (by decide) rfl (fun c_171 => ?_) (fun c_171 => ?_)
    · refine J_bipush (n := 181) dX7_lineNow_179 kB_m4 rfl ?_
      refine J_iret dX7_lineNow_181 rfl (kN_i _) ?_
      first
      | (have hs := spl_0 (b := b) (e := e) ht heL (i := 6) (n := 3) (a0 := 109) (a1 := 97) (a2 := 110) rfl rfl (by decide) (by decide) (by decide)
         rw [(nb_t _).mp c_171] at hs
         rw [if_pos hs.symm] at h0
         exact h0)
      | (have hs := spl_0 (b := b) (e := e) ht heL (i := 6) (n := 3) (a0 := 109) (a1 := 97) (a2 := 110) rfl rfl (by decide) (by decide) (by decide)
         have hsf : spl t b e 6 = false := by
           rw [← hs]
           rw [(nb_0 _).mp c_171]
         rw [if_neg (by rw [hsf]; decide)] at h0
         exact h0)
    · refine J_bipush (n := 176) dX7_lineNow_174 kB_6 rfl ?_
      refine J_goto (tgt := 181) dX7_lineNow_176 (by decide) ?_
      refine J_iret dX7_lineNow_181 rfl (kN_i _) ?_
      first
      | (have hs := spl_0 (b := b) (e := e) ht heL (i := 6) (n := 3) (a0 := 109) (a1 := 97) (a2 := 110) rfl rfl (by decide) (by decide) (by decide)
         rw [(nb_t _).mp c_171] at hs
         rw [if_pos hs.symm] at h0
         exact h0)
      | (have hs := spl_0 (b := b) (e := e) ht heL (i := 6) (n := 3) (a0 := 109) (a1 := 97) (a2 := 110) rfl rfl (by decide) (by decide) (by decide)
         have hsf : spl t b e 6 = false := by
           rw [← hs]
           rw [(nb_0 _).mp c_171]
         rw [if_neg (by rw [hsf]; decide)] at h0
         exact h0)
  have k130 : Q (some (.int (if spl t b e 5 = true then nI 5 else if spl t b e 6 = true then nI 6 else (-4)))) (hp G (gs_set σ 7 0 v)) → gx_J G mX7_lineNow (d + 2) 0 0 Q 130 [(0, .ref (gs_a G 7 0 0))] [] (hp G (gs_set σ 7 0 v)) := by
    intro h0
    refine J_aload_n (i := 0) (n := 131) dX7_lineNow_130 rfl rfl rfl ?_
    refine J_iconst (n := 132) dX7_lineNow_131 kI_5 rfl ?_
    refine J_bipush (n := 134) dX7_lineNow_132 kB_114 rfl ?_
    refine J_bipush (n := 136) dX7_lineNow_134 kB_111 rfl ?_
    refine J_bipush (n := 138) dX7_lineNow_136 kB_117 rfl ?_
    refine J_callVr (n := 141) wS_X7_is (c_M_is (n := 5) (a0 := 114) (a1 := 111) (a2 := 117) d ht hv hbe heL h12 h13 (by decide) ⟨rfl, rfl⟩) dX7_lineNow_138 wm_X7_95 ⟨wM_X7_is, wV_X7_is⟩ rfl (T_recv (by decide) (by decide)) rfl rfl (Nat.le_of_ble_eq_true rfl) rfl ?_
    refine J_if_eq (tgt := 160) (n := 144) dX7_lineNow_141 (by decide) rfl (fun c_141 => ?_) (fun c_141 => ?_)
    · have hs := spl_5 (b := b) (e := e) ht heL (i := 5) (a0 := 114) (a1 := 111) (a2 := 117) (a3 := 116) (a4 := 101) rfl (by decide) (by decide) (by decide) (by decide) (by decide) (by decide)
      have hsf : spl t b e 5 = false := by
        rw [← hs]
        first
        | (rw [(nb_0 _).mp c_141, Bool.false_and])
        | (rw [(nb_0 _).mp c_153, Bool.and_false])
      rw [if_neg (by rw [hsf]; decide)] at h0
      exact k160 h0
    · refine J_aload_n (i := 0) (n := 145) dX7_lineNow_144 rfl rfl rfl ?_
      refine J_bipush (n := 147) dX7_lineNow_145 kB_116 rfl ?_
      refine J_bipush (n := 149) dX7_lineNow_147 kB_101 rfl ?_
      refine J_iconst (n := 150) dX7_lineNow_149 kI_0 rfl ?_
      refine J_callVr (n := 153) wS_X7_endsIn (c_M_endsIn (a0 := 116) (a1 := 101) (a2 := 0) d ht hv hbe heL h12 h13 (by decide) (by decide) ⟨rfl, rfl⟩) dX7_lineNow_150 wm_X7_99 ⟨wM_X7_endsIn, wV_X7_endsIn⟩ rfl (T_recv (by decide) (by decide)) rfl rfl (Nat.le_of_ble_eq_true rfl) rfl ?_
      refine J_if_eq (tgt := 160) (n := 156) dX7_lineNow_153 (by decide) rfl (fun c_153 => ?_) (fun c_153 => ?_)
      · have hs := spl_5 (b := b) (e := e) ht heL (i := 5) (a0 := 114) (a1 := 111) (a2 := 117) (a3 := 116) (a4 := 101) rfl (by decide) (by decide) (by decide) (by decide) (by decide) (by decide)
        have hsf : spl t b e 5 = false := by
          rw [← hs]
          first
          | (rw [(nb_0 _).mp c_141, Bool.false_and])
          | (rw [(nb_0 _).mp c_153, Bool.and_false])
        rw [if_neg (by rw [hsf]; decide)] at h0
        exact k160 h0
      · refine J_iconst (n := 157) dX7_lineNow_156 kI_5 rfl ?_
        refine J_goto (tgt := 181) dX7_lineNow_157 (by decide) ?_
        refine J_iret dX7_lineNow_181 rfl (kN_i _) ?_
        have hs := spl_5 (b := b) (e := e) ht heL (i := 5) (a0 := 114) (a1 := 111) (a2 := 117) (a3 := 116) (a4 := 101) rfl (by decide) (by decide) (by decide) (by decide) (by decide) (by decide)
        rw [(nb_t _).mp c_141, (nb_t _).mp c_153] at hs
        rw [if_pos (show spl t b e 5 = true from hs.symm)] at h0
        exact h0
  have k103 : Q (some (.int (if spl t b e 4 = true then nI 4 else if spl t b e 5 = true then nI 5 else if spl t b e 6 = true then nI 6 else (-4)))) (hp G (gs_set σ 7 0 v)) → gx_J G mX7_lineNow (d + 2) 0 0 Q 103 [(0, .ref (gs_a G 7 0 0))] [] (hp G (gs_set σ 7 0 v)) := by
    intro h0
    refine J_aload_n (i := 0) (n := 104) dX7_lineNow_103 rfl rfl rfl ?_
    refine J_iconst (n := 105) dX7_lineNow_104 kI_4 rfl ?_
    refine J_bipush (n := 107) dX7_lineNow_105 kB_102 rfl ?_
    refine J_bipush (n := 109) dX7_lineNow_107 kB_97 rfl ?_
    refine J_bipush (n := 111) dX7_lineNow_109 kB_109 rfl ?_
    refine J_callVr (n := 114) wS_X7_is (c_M_is (n := 4) (a0 := 102) (a1 := 97) (a2 := 109) d ht hv hbe heL h12 h13 (by decide) ⟨rfl, rfl⟩) dX7_lineNow_111 wm_X7_95 ⟨wM_X7_is, wV_X7_is⟩ rfl (T_recv (by decide) (by decide)) rfl rfl (Nat.le_of_ble_eq_true rfl) rfl ?_
    refine J_if_eq (tgt := 130) (n := 117) dX7_lineNow_114 (by decide) rfl (fun c_114 => ?_) (fun c_114 => ?_)
    · have hs := spl_4 (b := b) (e := e) ht heL (i := 4) (a0 := 102) (a1 := 97) (a2 := 109) (a3 := 101) rfl (by decide) (by decide) (by decide) (by decide)
      have hsf : spl t b e 4 = false := by
        rw [← hs]
        first
        | (rw [(nb_0 _).mp c_114, Bool.false_and])
        | (rw [(nb_0 _).mp c_125, Bool.and_false])
      rw [if_neg (by rw [hsf]; decide)] at h0
      exact k130 h0
    · refine J_aload_n (i := 0) (n := 118) dX7_lineNow_117 rfl rfl rfl ?_
      refine J_bipush (n := 120) dX7_lineNow_118 kB_101 rfl ?_
      refine J_iconst (n := 121) dX7_lineNow_120 kI_0 rfl ?_
      refine J_iconst (n := 122) dX7_lineNow_121 kI_0 rfl ?_
      refine J_callVr (n := 125) wS_X7_endsIn (c_M_endsIn (a0 := 101) (a1 := 0) (a2 := 0) d ht hv hbe heL h12 h13 (by decide) (by decide) ⟨rfl, rfl⟩) dX7_lineNow_122 wm_X7_99 ⟨wM_X7_endsIn, wV_X7_endsIn⟩ rfl (T_recv (by decide) (by decide)) rfl rfl (Nat.le_of_ble_eq_true rfl) rfl ?_
      refine J_if_eq (tgt := 130) (n := 128) dX7_lineNow_125 (by decide) rfl (fun c_125 => ?_) (fun c_125 => ?_)
      · have hs := spl_4 (b := b) (e := e) ht heL (i := 4) (a0 := 102) (a1 := 97) (a2 := 109) (a3 := 101) rfl (by decide) (by decide) (by decide) (by decide)
        have hsf : spl t b e 4 = false := by
          rw [← hs]
          first
          | (rw [(nb_0 _).mp c_114, Bool.false_and])
          | (rw [(nb_0 _).mp c_125, Bool.and_false])
        rw [if_neg (by rw [hsf]; decide)] at h0
        exact k130 h0
      · refine J_iconst (n := 129) dX7_lineNow_128 kI_4 rfl ?_
        refine J_iret dX7_lineNow_129 rfl (kN_i _) ?_
        have hs := spl_4 (b := b) (e := e) ht heL (i := 4) (a0 := 102) (a1 := 97) (a2 := 109) (a3 := 101) rfl (by decide) (by decide) (by decide) (by decide)
        rw [(nb_t _).mp c_114, (nb_t _).mp c_125] at hs
        rw [if_pos (show spl t b e 4 = true from hs.symm)] at h0
        exact h0
  have k76 : Q (some (.int (if spl t b e 3 = true then nI 3 else if spl t b e 4 = true then nI 4 else if spl t b e 5 = true then nI 5 else if spl t b e 6 = true then nI 6 else (-4)))) (hp G (gs_set σ 7 0 v)) → gx_J G mX7_lineNow (d + 2) 0 0 Q 76 [(0, .ref (gs_a G 7 0 0))] [] (hp G (gs_set σ 7 0 v)) := by
    intro h0
    refine J_aload_n (i := 0) (n := 77) dX7_lineNow_76 rfl rfl rfl ?_
    refine J_iconst (n := 78) dX7_lineNow_77 kI_4 rfl ?_
    refine J_bipush (n := 80) dX7_lineNow_78 kB_98 rfl ?_
    refine J_bipush (n := 82) dX7_lineNow_80 kB_111 rfl ?_
    refine J_bipush (n := 84) dX7_lineNow_82 kB_108 rfl ?_
    refine J_callVr (n := 87) wS_X7_is (c_M_is (n := 4) (a0 := 98) (a1 := 111) (a2 := 108) d ht hv hbe heL h12 h13 (by decide) ⟨rfl, rfl⟩) dX7_lineNow_84 wm_X7_95 ⟨wM_X7_is, wV_X7_is⟩ rfl (T_recv (by decide) (by decide)) rfl rfl (Nat.le_of_ble_eq_true rfl) rfl ?_
    refine J_if_eq (tgt := 103) (n := 90) dX7_lineNow_87 (by decide) rfl (fun c_87 => ?_) (fun c_87 => ?_)
    · have hs := spl_4 (b := b) (e := e) ht heL (i := 3) (a0 := 98) (a1 := 111) (a2 := 108) (a3 := 100) rfl (by decide) (by decide) (by decide) (by decide)
      have hsf : spl t b e 3 = false := by
        rw [← hs]
        first
        | (rw [(nb_0 _).mp c_87, Bool.false_and])
        | (rw [(nb_0 _).mp c_98, Bool.and_false])
      rw [if_neg (by rw [hsf]; decide)] at h0
      exact k103 h0
    · refine J_aload_n (i := 0) (n := 91) dX7_lineNow_90 rfl rfl rfl ?_
      refine J_bipush (n := 93) dX7_lineNow_91 kB_100 rfl ?_
      refine J_iconst (n := 94) dX7_lineNow_93 kI_0 rfl ?_
      refine J_iconst (n := 95) dX7_lineNow_94 kI_0 rfl ?_
      refine J_callVr (n := 98) wS_X7_endsIn (c_M_endsIn (a0 := 100) (a1 := 0) (a2 := 0) d ht hv hbe heL h12 h13 (by decide) (by decide) ⟨rfl, rfl⟩) dX7_lineNow_95 wm_X7_99 ⟨wM_X7_endsIn, wV_X7_endsIn⟩ rfl (T_recv (by decide) (by decide)) rfl rfl (Nat.le_of_ble_eq_true rfl) rfl ?_
      refine J_if_eq (tgt := 103) (n := 101) dX7_lineNow_98 (by decide) rfl (fun c_98 => ?_) (fun c_98 => ?_)
      · have hs := spl_4 (b := b) (e := e) ht heL (i := 3) (a0 := 98) (a1 := 111) (a2 := 108) (a3 := 100) rfl (by decide) (by decide) (by decide) (by decide)
        have hsf : spl t b e 3 = false := by
          rw [← hs]
          first
          | (rw [(nb_0 _).mp c_87, Bool.false_and])
          | (rw [(nb_0 _).mp c_98, Bool.and_false])
        rw [if_neg (by rw [hsf]; decide)] at h0
        exact k103 h0
      · refine J_iconst (n := 102) dX7_lineNow_101 kI_3 rfl ?_
        refine J_iret dX7_lineNow_102 rfl (kN_i _) ?_
        have hs := spl_4 (b := b) (e := e) ht heL (i := 3) (a0 := 98) (a1 := 111) (a2 := 108) (a3 := 100) rfl (by decide) (by decide) (by decide) (by decide)
        rw [(nb_t _).mp c_87, (nb_t _).mp c_98] at hs
        rw [if_pos (show spl t b e 3 = true from hs.symm)] at h0
        exact h0
  have k60 : Q (some (.int (if spl t b e 2 = true then nI 2 else if spl t b e 3 = true then nI 3 else if spl t b e 4 = true then nI 4 else if spl t b e 5 = true then nI 5 else if spl t b e 6 = true then nI 6 else (-4)))) (hp G (gs_set σ 7 0 v)) → gx_J G mX7_lineNow (d + 2) 0 0 Q 60 [(0, .ref (gs_a G 7 0 0))] [] (hp G (gs_set σ 7 0 v)) := by
    intro h0
    refine J_aload_n (i := 0) (n := 61) dX7_lineNow_60 rfl rfl rfl ?_
    refine J_iconst (n := 62) dX7_lineNow_61 kI_3 rfl ?_
    refine J_bipush (n := 64) dX7_lineNow_62 kB_115 rfl ?_
    refine J_bipush (n := 66) dX7_lineNow_64 kB_104 rfl ?_
    refine J_bipush (n := 68) dX7_lineNow_66 kB_121 rfl ?_
    refine J_callVr (n := 71) wS_X7_is (c_M_is (n := 3) (a0 := 115) (a1 := 104) (a2 := 121) d ht hv hbe heL h12 h13 (by decide) ⟨rfl, rfl⟩) dX7_lineNow_68 wm_X7_95 ⟨wM_X7_is, wV_X7_is⟩ rfl (T_recv (by decide) (by decide)) rfl rfl (Nat.le_of_ble_eq_true rfl) rfl ?_
    refine J_if_eq (tgt := 76) (n := 74) dX7_lineNow_71 (by decide) rfl (fun c_71 => ?_) (fun c_71 => ?_)
    · have hs := spl_0 (b := b) (e := e) ht heL (i := 2) (n := 3) (a0 := 115) (a1 := 104) (a2 := 121) rfl rfl (by decide) (by decide) (by decide)
      have hsf : spl t b e 2 = false := by
        rw [← hs]
        rw [(nb_0 _).mp c_71]
      rw [if_neg (by rw [hsf]; decide)] at h0
      exact k76 h0
    · refine J_iconst (n := 75) dX7_lineNow_74 kI_2 rfl ?_
      refine J_iret dX7_lineNow_75 rfl (kN_i _) ?_
      have hs := spl_0 (b := b) (e := e) ht heL (i := 2) (n := 3) (a0 := 115) (a1 := 104) (a2 := 121) rfl rfl (by decide) (by decide) (by decide)
      rw [(nb_t _).mp c_71] at hs
      rw [if_pos hs.symm] at h0
      exact h0
  have k30 : Q (some (.int (if spl t b e 1 = true then nI 1 else if spl t b e 2 = true then nI 2 else if spl t b e 3 = true then nI 3 else if spl t b e 4 = true then nI 4 else if spl t b e 5 = true then nI 5 else if spl t b e 6 = true then nI 6 else (-4)))) (hp G (gs_set σ 7 0 v)) → gx_J G mX7_lineNow (d + 2) 0 0 Q 30 [(0, .ref (gs_a G 7 0 0))] [] (hp G (gs_set σ 7 0 v)) := by
    intro h0
    refine J_aload_n (i := 0) (n := 31) dX7_lineNow_30 rfl rfl rfl ?_
    refine J_bipush (n := 33) dX7_lineNow_31 kB_6 rfl ?_
    refine J_bipush (n := 35) dX7_lineNow_33 kB_100 rfl ?_
    refine J_bipush (n := 37) dX7_lineNow_35 kB_97 rfl ?_
    refine J_bipush (n := 39) dX7_lineNow_37 kB_110 rfl ?_
    refine J_callVr (n := 42) wS_X7_is (c_M_is (n := 6) (a0 := 100) (a1 := 97) (a2 := 110) d ht hv hbe heL h12 h13 (by decide) ⟨rfl, rfl⟩) dX7_lineNow_39 wm_X7_95 ⟨wM_X7_is, wV_X7_is⟩ rfl (T_recv (by decide) (by decide)) rfl rfl (Nat.le_of_ble_eq_true rfl) rfl ?_
    refine J_if_eq (tgt := 60) (n := 45) dX7_lineNow_42 (by decide) rfl (fun c_42 => ?_) (fun c_42 => ?_)
    · have hs := spl_6 (b := b) (e := e) ht heL (i := 1) (a0 := 100) (a1 := 97) (a2 := 110) (a3 := 99) (a4 := 101) (a5 := 114) rfl (by decide) (by decide) (by decide) (by decide) (by decide) (by decide) (by decide) (by decide)
      have hsf : spl t b e 1 = false := by
        rw [← hs]
        first
        | (rw [(nb_0 _).mp c_42, Bool.false_and])
        | (rw [(nb_0 _).mp c_55, Bool.and_false])
      rw [if_neg (by rw [hsf]; decide)] at h0
      exact k60 h0
    · refine J_aload_n (i := 0) (n := 46) dX7_lineNow_45 rfl rfl rfl ?_
      refine J_bipush (n := 48) dX7_lineNow_46 kB_99 rfl ?_
      refine J_bipush (n := 50) dX7_lineNow_48 kB_101 rfl ?_
      refine J_bipush (n := 52) dX7_lineNow_50 kB_114 rfl ?_
      refine J_callVr (n := 55) wS_X7_endsIn (c_M_endsIn (a0 := 99) (a1 := 101) (a2 := 114) d ht hv hbe heL h12 h13 (by decide) (by decide) ⟨rfl, rfl⟩) dX7_lineNow_52 wm_X7_99 ⟨wM_X7_endsIn, wV_X7_endsIn⟩ rfl (T_recv (by decide) (by decide)) rfl rfl (Nat.le_of_ble_eq_true rfl) rfl ?_
      refine J_if_eq (tgt := 60) (n := 58) dX7_lineNow_55 (by decide) rfl (fun c_55 => ?_) (fun c_55 => ?_)
      · have hs := spl_6 (b := b) (e := e) ht heL (i := 1) (a0 := 100) (a1 := 97) (a2 := 110) (a3 := 99) (a4 := 101) (a5 := 114) rfl (by decide) (by decide) (by decide) (by decide) (by decide) (by decide) (by decide) (by decide)
        have hsf : spl t b e 1 = false := by
          rw [← hs]
          first
          | (rw [(nb_0 _).mp c_42, Bool.false_and])
          | (rw [(nb_0 _).mp c_55, Bool.and_false])
        rw [if_neg (by rw [hsf]; decide)] at h0
        exact k60 h0
      · refine J_iconst (n := 59) dX7_lineNow_58 kI_1 rfl ?_
        refine J_iret dX7_lineNow_59 rfl (kN_i _) ?_
        have hs := spl_6 (b := b) (e := e) ht heL (i := 1) (a0 := 100) (a1 := 97) (a2 := 110) (a3 := 99) (a4 := 101) (a5 := 114) rfl (by decide) (by decide) (by decide) (by decide) (by decide) (by decide) (by decide) (by decide)
        rw [(nb_t _).mp c_42, (nb_t _).mp c_55] at hs
        rw [if_pos (show spl t b e 1 = true from hs.symm)] at h0
        exact h0
  have h0 := hq
  refine gx_K.of' (lv := [(0, _)]) (by decide) rfl (by decide) (Nat.le_of_ble_eq_true rfl) rfl ?_
  refine J_aload_n (i := 0) (n := 1) dX7_lineNow_0 rfl rfl rfl ?_
  refine J_bipush (n := 3) dX7_lineNow_1 kB_6 rfl ?_
  refine J_bipush (n := 5) dX7_lineNow_3 kB_115 rfl ?_
  refine J_bipush (n := 7) dX7_lineNow_5 kB_105 rfl ?_
  refine J_bipush (n := 9) dX7_lineNow_7 kB_103 rfl ?_
  refine J_callVr (n := 12) wS_X7_is (c_M_is (n := 6) (a0 := 115) (a1 := 105) (a2 := 103) d ht hv hbe heL h12 h13 (by decide) ⟨rfl, rfl⟩) dX7_lineNow_9 wm_X7_95 ⟨wM_X7_is, wV_X7_is⟩ rfl (T_recv (by decide) (by decide)) rfl rfl (Nat.le_of_ble_eq_true rfl) rfl ?_
  refine J_if_eq (tgt := 30) (n := 15) dX7_lineNow_12 (by decide) rfl (fun c_12 => ?_) (fun c_12 => ?_)
  · have hs := spl_6 (b := b) (e := e) ht heL (i := 0) (a0 := 115) (a1 := 105) (a2 := 103) (a3 := 110) (a4 := 101) (a5 := 114) rfl (by decide) (by decide) (by decide) (by decide) (by decide) (by decide) (by decide) (by decide)
    have hsf : spl t b e 0 = false := by
      rw [← hs]
      first
      | (rw [(nb_0 _).mp c_12, Bool.false_and])
      | (rw [(nb_0 _).mp c_25, Bool.and_false])
    rw [if_neg (by rw [hsf]; decide)] at h0
    exact k30 h0
  · refine J_aload_n (i := 0) (n := 16) dX7_lineNow_15 rfl rfl rfl ?_
    refine J_bipush (n := 18) dX7_lineNow_16 kB_110 rfl ?_
    refine J_bipush (n := 20) dX7_lineNow_18 kB_101 rfl ?_
    refine J_bipush (n := 22) dX7_lineNow_20 kB_114 rfl ?_
    refine J_callVr (n := 25) wS_X7_endsIn (c_M_endsIn (a0 := 110) (a1 := 101) (a2 := 114) d ht hv hbe heL h12 h13 (by decide) (by decide) ⟨rfl, rfl⟩) dX7_lineNow_22 wm_X7_99 ⟨wM_X7_endsIn, wV_X7_endsIn⟩ rfl (T_recv (by decide) (by decide)) rfl rfl (Nat.le_of_ble_eq_true rfl) rfl ?_
    refine J_if_eq (tgt := 30) (n := 28) dX7_lineNow_25 (by decide) rfl (fun c_25 => ?_) (fun c_25 => ?_)
    · have hs := spl_6 (b := b) (e := e) ht heL (i := 0) (a0 := 115) (a1 := 105) (a2 := 103) (a3 := 110) (a4 := 101) (a5 := 114) rfl (by decide) (by decide) (by decide) (by decide) (by decide) (by decide) (by decide) (by decide)
      have hsf : spl t b e 0 = false := by
        rw [← hs]
        first
        | (rw [(nb_0 _).mp c_12, Bool.false_and])
        | (rw [(nb_0 _).mp c_25, Bool.and_false])
      rw [if_neg (by rw [hsf]; decide)] at h0
      exact k30 h0
    · refine J_iconst (n := 29) dX7_lineNow_28 kI_0 rfl ?_
      refine J_iret dX7_lineNow_29 rfl (kN_i _) ?_
      have hs := spl_6 (b := b) (e := e) ht heL (i := 0) (a0 := 115) (a1 := 105) (a2 := 103) (a3 := 110) (a4 := 101) (a5 := 114) rfl (by decide) (by decide) (by decide) (by decide) (by decide) (by decide) (by decide) (by decide)
      rw [(nb_t _).mp c_12, (nb_t _).mp c_25] at hs
      rw [if_pos (show spl t b e 0 = true from hs.symm)] at h0
      exact h0

def tdv (td : Nat → Bool) (w : Nat) : Bool := decide (4 ≤ w) && (decide (w < 7) && td w)
def mfl (v : gs_Ob) (td : Nat → Bool) : Prop := v.2.1 7 = nI (td 4).toNat ∧ v.2.1 8 = nI (td 5).toNat ∧ v.2.1 9 = nI (td 6).toNat
theorem wI_eq {w c : Nat} (hw : w ≤ 7) (hc : c < 7) : wI w = nI c ↔ w = c := by
  unfold wI
  by_cases h : w = 7
  · rw [if_pos h]
    refine ⟨fun q => absurd q ?_, fun q => by omega⟩
    rcases (show c = 0 ∨ c = 1 ∨ c = 2 ∨ c = 3 ∨ c = 4 ∨ c = 5 ∨ c = 6 by omega) with rfl | rfl | rfl | rfl | rfl | rfl | rfl <;> decide +kernel
  · rw [if_neg h, nI_eq (by omega) (by omega)]
theorem wI_7 {w : Nat} (hw : w ≤ 7) : wI w = -4 ↔ w = 7 := by
  unfold wI
  by_cases h : w = 7
  · rw [if_pos h]; exact ⟨fun _ => h, fun _ => rfl⟩
  · rw [if_neg h]
    refine ⟨fun q => absurd q ?_, fun q => absurd q h⟩
    rcases (show w = 0 ∨ w = 1 ∨ w = 2 ∨ w = 3 ∨ w = 4 ∨ w = 5 ∨ w = 6 by omega) with rfl | rfl | rfl | rfl | rfl | rfl | rfl <;> decide +kernel
theorem wd_le (t : Nat → Nat) (b e : Nat) : wd t b e ≤ 7 := by
  have h : ∀ m i, i + m ≤ 7 → wdf t b e m i ≤ 7 := by
    intro m
    induction m with
    | zero => intro i _; exact Nat.le_refl _
    | succ m ih =>
      intro i hi
      show (if spl t b e i = true then i else wdf t b e m (i + 1)) ≤ 7
      split
      · omega
      · exact ih (i + 1) (by omega)
  exact h 7 0 (by decide)
set_option maxHeartbeats 4000000 in
set_option maxRecDepth 100000 in
theorem c_M_wasTold {G : gx_G} {σ : gs_S} {Q : Option Value → gx_Hp → Prop} {v : gs_Ob} {td : Nat → Bool} {w : Nat} (d : Nat) (hw : w ≤ 7) (hf : mfl v td) (hq : Q (some (.int (nI (tdv td w).toNat))) (hp G (gs_set σ 7 0 v))) : gx_K G yX7_wasTold mX7_wasTold d 0 0 [.ref (gs_a G 7 0 0), .int (wI w)] (hp G (gs_set σ 7 0 v)) Q := by
  obtain ⟨h7, h8, h9⟩ := hf
  refine gx_K.of' (lv := [(0, _), (1, _)]) (by decide) rfl (by decide) (Nat.le_of_ble_eq_true rfl) rfl ?_
  refine J_iload_n (i := 1) (n := 1) dX7_wasTold_0 rfl rfl rfl ?_
  refine J_iconst (n := 2) dX7_wasTold_1 kI_4 rfl ?_
  refine J_icmp_ne (tgt := 12) (n := 5) dX7_wasTold_2 (by decide) rfl (fun c_2 => ?_) (fun c_2 => ?_)
  · refine J_iload_n (i := 1) (n := 13) dX7_wasTold_12 rfl rfl rfl ?_
    refine J_iconst (n := 14) dX7_wasTold_13 kI_5 rfl ?_
    refine J_icmp_ne (tgt := 24) (n := 17) dX7_wasTold_14 (by decide) rfl (fun c_14 => ?_) (fun c_14 => ?_)
    · refine J_iload_n (i := 1) (n := 25) dX7_wasTold_24 rfl rfl rfl ?_
      refine J_bipush (n := 27) dX7_wasTold_25 kB_6 rfl ?_
      refine J_icmp_ne (tgt := 41) (n := 30) dX7_wasTold_27 (by decide) rfl (fun c_27 => ?_) (fun c_27 => ?_)
      · refine J_iconst (n := 42) dX7_wasTold_41 kI_0 rfl ?_
        refine J_iret dX7_wasTold_42 rfl (by first | exact kN_b _ | exact kN_0 | exact kN_1) ?_
        first
        | (rw [show tdv td w = td 4 by rw [c_2]; rfl] at hq; exact hq)
        | (rw [show tdv td w = td 5 by rw [c_14]; rfl] at hq; exact hq)
        | (rw [show tdv td w = true by rw [c_27]; exact (nb_t _).mp c_34] at hq; exact hq)
        | (rw [show tdv td w = false by rw [c_27]; exact (nb_0 _).mp c_34] at hq; exact hq)
        | (rw [wI_eq hw (by decide)] at c_2 c_14 c_27
           rw [show tdv td w = false by
             unfold tdv
             by_cases h4 : 4 ≤ w
             · rw [decide_eq_false (show ¬ w < 7 by omega), Bool.false_and, Bool.and_false]
             · rw [decide_eq_false h4, Bool.false_and]] at hq
           exact hq)
      · rw [wI_eq hw (by decide)] at c_27
        refine J_aload_n (i := 0) (n := 31) dX7_wasTold_30 rfl rfl rfl ?_
        refine T_get (k := 9) (n := 34) wk_X7 dX7_wasTold_31 wf_X7_64 (by decide) (by decide) rfl rfl ?_
        rw [h9]
        refine J_if_eq (tgt := 41) (n := 37) dX7_wasTold_34 (by decide) rfl (fun c_34 => ?_) (fun c_34 => ?_)
        · refine J_iconst (n := 42) dX7_wasTold_41 kI_0 rfl ?_
          refine J_iret dX7_wasTold_42 rfl (by first | exact kN_b _ | exact kN_0 | exact kN_1) ?_
          first
          | (rw [show tdv td w = td 4 by rw [c_2]; rfl] at hq; exact hq)
          | (rw [show tdv td w = td 5 by rw [c_14]; rfl] at hq; exact hq)
          | (rw [show tdv td w = true by rw [c_27]; exact (nb_t _).mp c_34] at hq; exact hq)
          | (rw [show tdv td w = false by rw [c_27]; exact (nb_0 _).mp c_34] at hq; exact hq)
          | (rw [wI_eq hw (by decide)] at c_2 c_14 c_27
             rw [show tdv td w = false by
               unfold tdv
               by_cases h4 : 4 ≤ w
               · rw [decide_eq_false (show ¬ w < 7 by omega), Bool.false_and, Bool.and_false]
               · rw [decide_eq_false h4, Bool.false_and]] at hq
             exact hq)
        · refine J_iconst (n := 38) dX7_wasTold_37 kI_1 rfl ?_
          refine J_goto (tgt := 42) dX7_wasTold_38 (by decide) ?_
          refine J_iret dX7_wasTold_42 rfl (by first | exact kN_b _ | exact kN_0 | exact kN_1) ?_
          first
          | (rw [show tdv td w = td 4 by rw [c_2]; rfl] at hq; exact hq)
          | (rw [show tdv td w = td 5 by rw [c_14]; rfl] at hq; exact hq)
          | (rw [show tdv td w = true by rw [c_27]; exact (nb_t _).mp c_34] at hq; exact hq)
          | (rw [show tdv td w = false by rw [c_27]; exact (nb_0 _).mp c_34] at hq; exact hq)
          | (rw [wI_eq hw (by decide)] at c_2 c_14 c_27
             rw [show tdv td w = false by
               unfold tdv
               by_cases h4 : 4 ≤ w
               · rw [decide_eq_false (show ¬ w < 7 by omega), Bool.false_and, Bool.and_false]
               · rw [decide_eq_false h4, Bool.false_and]] at hq
             exact hq)
    · rw [wI_eq hw (by decide)] at c_14
      refine J_aload_n (i := 0) (n := 18) dX7_wasTold_17 rfl rfl rfl ?_
      refine T_get (k := 8) (n := 21) wk_X7 dX7_wasTold_18 wf_X7_61 (by decide) (by decide) rfl rfl ?_
      rw [h8]
      refine J_goto (tgt := 42) dX7_wasTold_21 (by decide) ?_
      refine J_iret dX7_wasTold_42 rfl (by first | exact kN_b _ | exact kN_0 | exact kN_1) ?_
      first
      | (rw [show tdv td w = td 4 by rw [c_2]; rfl] at hq; exact hq)
      | (rw [show tdv td w = td 5 by rw [c_14]; rfl] at hq; exact hq)
      | (rw [show tdv td w = true by rw [c_27]; exact (nb_t _).mp c_34] at hq; exact hq)
      | (rw [show tdv td w = false by rw [c_27]; exact (nb_0 _).mp c_34] at hq; exact hq)
      | (rw [wI_eq hw (by decide)] at c_2 c_14 c_27
         rw [show tdv td w = false by
           unfold tdv
           by_cases h4 : 4 ≤ w
           · rw [decide_eq_false (show ¬ w < 7 by omega), Bool.false_and, Bool.and_false]
           · rw [decide_eq_false h4, Bool.false_and]] at hq
         exact hq)
  · rw [wI_eq hw (by decide)] at c_2
    refine J_aload_n (i := 0) (n := 6) dX7_wasTold_5 rfl rfl rfl ?_
    refine T_get (k := 7) (n := 9) wk_X7 dX7_wasTold_6 wf_X7_57 (by decide) (by decide) rfl rfl ?_
    rw [h7]
    refine J_goto (tgt := 42) dX7_wasTold_9 (by decide) ?_
    refine J_iret dX7_wasTold_42 rfl (by first | exact kN_b _ | exact kN_0 | exact kN_1) ?_
    first
    | (rw [show tdv td w = td 4 by rw [c_2]; rfl] at hq; exact hq)
    | (rw [show tdv td w = td 5 by rw [c_14]; rfl] at hq; exact hq)
    | (rw [show tdv td w = true by rw [c_27]; exact (nb_t _).mp c_34] at hq; exact hq)
    | (rw [show tdv td w = false by rw [c_27]; exact (nb_0 _).mp c_34] at hq; exact hq)
    | (rw [wI_eq hw (by decide)] at c_2 c_14 c_27
       rw [show tdv td w = false by
         unfold tdv
         by_cases h4 : 4 ≤ w
         · rw [decide_eq_false (show ¬ w < 7 by omega), Bool.false_and, Bool.and_false]
         · rw [decide_eq_false h4, Bool.false_and]] at hq
       exact hq)

