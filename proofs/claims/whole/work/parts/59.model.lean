/-! ===== model: days on which he stays ===== -/
def run (v : Nat) : Nat → Nat → Nat × pw → Nat × pw
  | 0, _, x => x
  | m + 1, s, x => if s % 2 = 1 then run v m (s / 2) (x.1 * v, pw_day x.2 (x.2.2.2 8)) else run v m (s / 2) (x.1 * (10 - v), pw_days x.2 1)
def rs (T : pw → Nat) (v m w : Nat) (p : pw) (s : Nat) : Nat := (run v m s (w, p)).1 * T (run v m s (w, p)).2
def T1 (o : Option Nat) (p : pw) : Nat := match o with
  | some j => (p.2.1 j).toNat
  | none => 0
def gM (o : Option Nat) : Int32 := match o with
  | some j => nI j
  | none => -4
theorem su_two (f : Nat → Nat) (N : Nat) : su f (2 * N) = su (fun r => f (2 * r) + f (2 * r + 1)) N := by
  induction N with
  | zero => rfl
  | succ N ih =>
    show su f (2 * N) + f (2 * N) + f (2 * N + 1) = su (fun r => f (2 * r) + f (2 * r + 1)) N + (f (2 * N) + f (2 * N + 1))
    rw [ih, Nat.add_assoc]
theorem su_plus (f g : Nat → Nat) (N : Nat) : su (fun r => f r + g r) N = su f N + su g N := by
  induction N with
  | zero => rfl
  | succ N ih =>
    show su (fun r => f r + g r) N + (f N + g N) = su f N + f N + (su g N + g N)
    rw [ih]; omega
theorem su_run (T : pw → Nat) (v : Nat) : ∀ m w p, su (rs T v m w p) (2 ^ m) = w * wb T v m p := by
  intro m
  induction m with
  | zero => intro w p; show 0 + w * T p = w * T p; omega
  | succ m ih =>
    intro w p
    rw [Nat.pow_succ, Nat.mul_comm, su_two]
    have e : (fun r => rs T v (m + 1) w p (2 * r) + rs T v (m + 1) w p (2 * r + 1)) = fun r => rs T v m (w * (10 - v)) (pw_days p 1) r + rs T v m (w * v) (pw_day p (p.2.2 8)) r := by
      funext r
      have e1 : run v (m + 1) (2 * r) (w, p) = run v m r (w * (10 - v), pw_days p 1) := by
        show (if 2 * r % 2 = 1 then _ else run v m (2 * r / 2) (w * (10 - v), pw_days p 1)) = _
        rw [if_neg (by omega), show 2 * r / 2 = r by omega]
      have e2 : run v (m + 1) (2 * r + 1) (w, p) = run v m r (w * v, pw_day p (p.2.2 8)) := by
        show (if (2 * r + 1) % 2 = 1 then run v m ((2 * r + 1) / 2) (w * v, pw_day p (p.2.2 8)) else _) = _
        rw [if_pos (by omega), show (2 * r + 1) / 2 = r by omega]
      unfold rs
      rw [e1, e2]
    rw [e, su_plus, ih, ih]
    show w * (10 - v) * wb T v m (pw_days p 1) + w * v * wb T v m (pw_day p (p.2.2 8)) = w * (v * wb T v m (pw_day p (p.2.2 8)) + (10 - v) * wb T v m (pw_days p 1))
    rw [Nat.mul_add, Nat.mul_assoc, Nat.mul_assoc, Nat.add_comm]
theorem gsl_s (v : gs_Ob) (k : Nat) (x : Int64) : (gs_l v k x).2.2 k = x := by simp [gs_l, vp_updL]
theorem gsl_n (v : gs_Ob) {k q : Nat} (x : Int64) (h : q ≠ k) : (gs_l v k x).2.2 q = v.2.2 q := by simp [gs_l, vp_updL, h]
theorem mQ.l (v : gs_Ob) (k : Nat) (x : Int64) : mQ v (gs_l v k x) := ⟨fun _ _ => rfl, fun _ _ => rfl⟩
theorem sh_all : ∀ n, n < 9 → nI 1 <<< (nI n &&& 31) = nI (2 ^ n) := by decide +kernel
theorem bt8_all : ∀ s, s < 256 → ∀ k, k < 8 → ((nI s >>> (nI k &&& 31)) &&& nI 1 = nI 1 ↔ s / 2 ^ k % 2 = 1) := by decide +kernel
theorem two_le : ∀ n, n ≤ 8 → 2 ^ n ≤ 256 := by decide
theorem gM_ne {o : Option Nat} (ho : ∀ j, o = some j → j < 4) : gM o = -4 ↔ o = none := by
  cases o with
  | none => exact ⟨fun _ => rfl, fun _ => rfl⟩
  | some j =>
    have h := ho j rfl
    refine ⟨fun h1 => absurd h1 ?_, fun h1 => by cases h1⟩
    show ¬ nI j = -4
    rcases (show j = 0 ∨ j = 1 ∨ j = 2 ∨ j = 3 by omega) with rfl | rfl | rfl | rfl <;> decide +kernel
set_option maxHeartbeats 4000000 in
set_option maxRecDepth 100000 in
theorem c_M_common {G : gx_G} {h : gx_Hp} {Q : Option Value → gx_Hp → Prop} (d : Nat) {a b : Nat} (ha : a < 2 ^ 40) (hb : b < 2 ^ 40) (hq : Q (some (.long (lN (Nat.gcd a b)))) h) : gx_K G yX7_common mX7_common d 0 0 [.long (lN a), .long (lN b)] h Q := by
  have loop : ∀ u x y, y < u → x < 2 ^ 40 → y < 2 ^ 40 → Nat.gcd x y = Nat.gcd a b → gx_J G mX7_common d 0 0 Q 6 [(0, .long (lN a)), (2, .long (lN b)), (4, .long (lN x)), (6, .long (lN y))] [] (h) := by
    intro u
    induction u with
    | zero => intros; exact absurd (by assumption) (Nat.not_lt_zero _)
    | succ u ih =>
      intro x y hu hx hy hr
      refine J_lload (i := 6) (n := 8) dX7_common_6 rfl rfl ?_
      refine J_lconst (n := 9) dX7_common_8 kL_0 rfl ?_
      refine J_lcmp (n := 10) dX7_common_9 rfl ?_
      refine J_if_eq (tgt := 31) (n := 13) dX7_common_10 (by decide) rfl (fun c_10 => ?_) (fun c_10 => ?_)
      · refine J_lload (i := 4) (n := 33) dX7_common_31 rfl rfl ?_
        refine J_lret dX7_common_33 rfl ?_
        rw [lc_0 (by omega)] at c_10
        rw [c_10, Nat.gcd_zero_right] at hr
        rw [hr]
        exact hq
      · rw [lc_0 (by omega)] at c_10
        refine J_lload (i := 4) (n := 15) dX7_common_13 rfl rfl ?_
        refine J_lload (i := 6) (n := 17) dX7_common_15 rfl rfl ?_
        refine J_lrem (n := 18) dX7_common_17 (fun q => c_10 ((lN_inj (b := 0) (by omega) (by omega)).mp q)) rfl ?_
        rw [lN_rem (by omega) (by omega)]
        refine J_lstore (i := 8) (n := 20) (lv' := [(0, _), (2, _), (4, _), (6, _), (8, _)]) dX7_common_18 (by decide) rfl rfl ?_
        refine J_lload (i := 6) (n := 22) dX7_common_20 rfl rfl ?_
        refine J_lstore (i := 4) (n := 24) (lv' := [(0, _), (2, _), (4, _), (6, _), (8, _)]) dX7_common_22 (by decide) rfl rfl ?_
        refine J_lload (i := 8) (n := 26) dX7_common_24 rfl rfl ?_
        refine J_lstore (i := 6) (n := 28) (lv' := [(0, _), (2, _), (4, _), (6, _), (8, _)]) dX7_common_26 (by decide) rfl rfl ?_
        refine J_goto (tgt := 6) dX7_common_28 (by decide) ?_
        refine J_sub (lv' := [(0, _), (2, _), (4, _), (6, _)]) (fun q hq => List.mem_append_left [(8, _)] hq) ?_
        have hml := Nat.mod_lt x (y := y) (by omega)
        refine ih y (x % y) (by omega) hy (by omega) ?_
        rw [← hr, Nat.gcd_comm x y, Nat.gcd_rec y x, Nat.gcd_comm]
  refine gx_K.of' (lv := [(0, _), (2, _)]) (by decide) rfl (by decide) (Nat.le_of_ble_eq_true rfl) rfl ?_
  refine J_lload_n (i := 0) (n := 1) dX7_common_0 rfl rfl rfl ?_
  refine J_lstore (i := 4) (n := 3) (lv' := [(0, _), (2, _), (4, _)]) dX7_common_1 (by decide) rfl rfl ?_
  refine J_lload_n (i := 2) (n := 4) dX7_common_3 rfl rfl rfl ?_
  refine J_lstore (i := 6) (n := 6) (lv' := [(0, _), (2, _), (4, _), (6, _)]) dX7_common_4 (by decide) rfl rfl ?_
  exact loop (b + 1) a b (by omega) ha hb rfl

set_option maxHeartbeats 4000000 in
set_option maxRecDepth 100000 in
theorem c_M_told {G : gx_G} {h : gx_Hp} {Q : Option Value → gx_Hp → Prop} (d : Nat) {a n : Nat} (w : Int32) (hn : n ≤ 8) (ha : a < 2 ^ 40) (hq : Q (some (.long (fr a n w))) h) : gx_K G yX7_told mX7_told (d + 1) 0 0 [.long (lN a), .long (lN (10 ^ n)), .int w] h Q := by
  have h1 := (ten_le n hn).1
  have hgp : 1 ≤ Nat.gcd (10 ^ n) a := Nat.gcd_pos_of_pos_left _ (ten_le n hn).2
  have hgl : Nat.gcd (10 ^ n) a ≤ 10 ^ n := Nat.gcd_le_left _ (ten_le n hn).2
  have hgn : ¬ lN (Nat.gcd (10 ^ n) a) = 0 := by
    intro q
    have := (lN_inj (b := 0) (by omega) (by decide)).mp q
    omega
  unfold fr at hq
  refine gx_K.of' (lv := [(0, _), (2, _), (4, _)]) (by decide) rfl (by decide) (Nat.le_of_ble_eq_true rfl) rfl ?_
  refine J_lload_n (i := 2) (n := 1) dX7_told_0 rfl rfl rfl ?_
  refine J_lload_n (i := 0) (n := 2) dX7_told_1 rfl rfl rfl ?_
  refine J_callSr (n := 5) wS_X7_common (c_M_common d (a := 10 ^ n) (b := a) (by omega) ha ⟨rfl, rfl⟩) dX7_told_2 wm_X7_268 wT_X7_common rfl rfl (Nat.le_of_ble_eq_true rfl) rfl ?_
  refine J_lstore (i := 5) (n := 7) (lv' := [(0, _), (2, _), (4, _), (5, _)]) dX7_told_5 (by decide) rfl rfl ?_
  refine J_iload (i := 4) (n := 9) dX7_told_7 rfl rfl ?_
  refine J_if_ne (tgt := 19) (n := 12) dX7_told_9 (by decide) rfl (fun c_9 => ?_) (fun c_9 => ?_)
  · refine J_lload_n (i := 2) (n := 20) dX7_told_19 rfl rfl rfl ?_
    refine J_lload (i := 5) (n := 22) dX7_told_20 rfl rfl ?_
    refine J_ldiv (n := 23) dX7_told_22 hgn rfl ?_
    refine J_lret dX7_told_23 rfl ?_
    first
    | (rw [if_pos c_9] at hq
       rw [lN_div (by omega) (by omega)]
       exact hq)
    | (rw [if_neg c_9] at hq
       rw [lN_div (by omega) (by omega)]
       exact hq)
  · refine J_lload_n (i := 0) (n := 13) dX7_told_12 rfl rfl rfl ?_
    refine J_lload (i := 5) (n := 15) dX7_told_13 rfl rfl ?_
    refine J_ldiv (n := 16) dX7_told_15 hgn rfl ?_
    refine J_goto (tgt := 23) dX7_told_16 (by decide) ?_
    refine J_lret dX7_told_23 rfl ?_
    first
    | (rw [if_pos c_9] at hq
       rw [lN_div (by omega) (by omega)]
       exact hq)
    | (rw [if_neg c_9] at hq
       rw [lN_div (by omega) (by omega)]
       exact hq)

set_option maxHeartbeats 4000000 in
set_option maxRecDepth 100000 in
theorem j_fo_63 {G : gx_G} {σ : gs_S} {Q : Option Value → gx_Hp → Prop} {S : pS} (d : Nat) {a n s : Nat} {o : Option Nat} {L : Nat → Int64} (ha : a ≤ 10) (hn : n ≤ 8) (hs : s < 256) (hS : SOk S) (k136 : ∀ v2 w q, mR v2 S → mN v2 q → pOk q → S.1.1.2.2 9 ≤ q.2.2 9 → q.2.2 6 = S.1.1.2.2 6 → v2.2.2 = L → run a n s (1, S.1.1) = (w, q) → gx_J G mX7_findOdds (d + 11) 0 0 Q 136 [(0, .ref (gs_a G 7 0 0)), (1, .int (nI a)), (2, .int (gM o)), (3, .int (nI n)), (4, .int (nI s)), (5, .long (lN w)), (7, .int (nI n))] [] (hp G (gs_set σ 7 0 v2))) : ∀ u k w q v2, n - k < u → k ≤ n → mR v2 S → mN v2 q → pOk q → q.2.2 10 = S.1.1.2.2 10 + k → S.1.1.2.2 9 ≤ q.2.2 9 → v2.2.2 = L → run a n s (1, S.1.1) = run a (n - k) (s / 2 ^ k) (w, q) → q.2.2 6 = S.1.1.2.2 6 → gx_J G mX7_findOdds (d + 11) 0 0 Q 63 [(0, .ref (gs_a G 7 0 0)), (1, .int (nI a)), (2, .int (gM o)), (3, .int (nI n)), (4, .int (nI s)), (5, .long (lN w)), (7, .int (nI k))] [] (hp G (gs_set σ 7 0 v2)) := by
  have hd9 : S.1.1.2.2 10 ≤ 999 := hS.1.2.2.1
  intro u
  induction u with
  | zero => intros; exact absurd (by assumption) (Nat.not_lt_zero _)
  | succ u ihu =>
    intro k w q v2 hu hk hm2 hN2 hOq hdy h9q hL hr hg6
    have hN0 : mN (gs_set σ 7 0 v2 7 0) q := by rw [gs_same]; exact hN2
    refine J_iload (i := 7) (n := 65) dX7_findOdds_63 rfl rfl ?_
    refine J_iload_n (i := 3) (n := 66) dX7_findOdds_65 rfl rfl rfl ?_
    refine J_icmp_ge (tgt := 136) (n := 69) dX7_findOdds_66 (by decide) rfl (fun c_66 => ?_) (fun c_66 => ?_)
    · rw [nI_leI (by omega) (by omega)] at c_66
      have ee : k = n := by omega
      subst ee
      rw [Nat.sub_self] at hr
      exact k136 v2 w q hm2 hN2 hOq h9q hg6 hL hr
    · rw [nI_leI (by omega) (by omega)] at c_66
      have hbb := bt8_all s hs k (by omega)
      refine J_iload (i := 4) (n := 71) dX7_findOdds_69 rfl rfl ?_
      refine J_iload (i := 7) (n := 73) dX7_findOdds_71 rfl rfl ?_
      refine J_ishr (n := 74) dX7_findOdds_73 rfl ?_
      refine J_iconst (n := 75) dX7_findOdds_74 kI_1 rfl ?_
      refine J_iand (n := 76) dX7_findOdds_75 rfl ?_
      refine J_iconst (n := 77) dX7_findOdds_76 kI_1 rfl ?_
      refine J_icmp_ne (tgt := 84) (n := 80) dX7_findOdds_77 (by decide) rfl (fun c_77 => ?_) (fun c_77 => ?_)
      · have c77 : ¬ s / 2 ^ k % 2 = 1 := fun q1 => c_77 (hbb.mpr q1)
        refine J_iconst (n := 85) dX7_findOdds_84 kI_0 rfl ?_
        refine J_istore (i := 8) (n := 87) (lv' := [(0, _), (1, _), (2, _), (3, _), (4, _), (5, _), (7, _), (8, _)]) dX7_findOdds_85 (by decide) rfl rfl ?_
        refine J_lload (i := 5) (n := 89) dX7_findOdds_87 rfl rfl ?_
        refine J_iload (i := 8) (n := 91) dX7_findOdds_89 rfl rfl ?_
        refine J_if_eq (tgt := 99) (n := 94) dX7_findOdds_91 (by decide) rfl (fun c_91 => ?_) (fun c_91 => ?_)
        · refine J_bipush (n := 101) dX7_findOdds_99 kB_10 rfl ?_
          refine J_iload_n (i := 1) (n := 102) dX7_findOdds_101 rfl rfl rfl ?_
          refine J_isub (n := 103) dX7_findOdds_102 rfl ?_
          rw [pk_sub (by omega)]
          refine J_i2l (n := 104) dX7_findOdds_103 rfl ?_
          rw [nI_l (by omega)]
          refine J_lmul (n := 105) dX7_findOdds_104 rfl ?_
          rw [lN_mul]
          refine J_lstore (i := 5) (n := 107) (lv' := [(0, _), (1, _), (2, _), (3, _), (4, _), (5, _), (7, _), (8, _)]) dX7_findOdds_105 (by decide) rfl rfl ?_
          refine J_aload_n (i := 0) (n := 108) dX7_findOdds_107 rfl rfl rfl ?_
          refine J_iload (i := 8) (n := 110) dX7_findOdds_108 rfl rfl ?_
          refine J_if_eq (tgt := 123) (n := 113) dX7_findOdds_110 (by decide) rfl (fun c_110 => ?_) (fun c_110 => ?_)
          · refine J_aload_n (i := 0) (n := 124) dX7_findOdds_123 rfl rfl rfl ?_
            refine J_callVr (n := 127) wS_X7_nextDoor (c_M_nextDoor (d + 10) hN0 hOq (by omega) ⟨rfl, rfl⟩) dX7_findOdds_124 wm_X7_182 ⟨wM_X7_nextDoor, wV_X7_nextDoor⟩ rfl (T_recv (by decide) (by decide)) rfl rfl (Nat.le_of_ble_eq_true rfl) rfl ?_
            refine J_callVx (n := 130) wS_X7_dayGoesAt (c_M_dayGoesAt (Q := fun r h => r = none ∧ ∃ v3, mN v3 (pw_day q (pw_next q)) ∧ mE v2 v3 ∧ h = hp G (gs_set σ 7 0 v3)) (d + 5) (e := pw_next q) hN2 hOq (pw_next_le hOq) (by omega) (fun v3 h1 h2 => ⟨rfl, v3, h1, h2, rfl⟩)) dX7_findOdds_127 wm_X7_185 ⟨wM_X7_dayGoesAt, wV_X7_dayGoesAt⟩ rfl (T_recv (by decide) (by decide)) rfl rfl (Nat.le_of_ble_eq_true rfl) rfl (fun r h1 hq1 => ?_)
            obtain ⟨rfl, v3, hN3, hE3, rfl⟩ := hq1
            refine J_inc (i := 7) (n := 133) (lv' := [(0, _), (1, _), (2, _), (3, _), (4, _), (5, _), (7, _), (8, _)]) dX7_findOdds_130 rfl (by decide) rfl rfl ?_
            refine J_goto (tgt := 63) dX7_findOdds_133 (by decide) ?_
            refine J_sub (lv' := [(0, _), (1, _), (2, _), (3, _), (4, _), (5, _), (7, _)]) (fun q hq => List.mem_append_left [(8, _)] hq) ?_
            refine ihu (k + 1) _ _ v3 (by omega) (by omega) (hm2.e hE3) hN3 (pw_days_ok hOq 1) (by rw [pw_day_day]; omega) (Nat.le_trans h9q (pw_days_name hOq.2.2.2.2.2.2.2 1).1) (by rw [hE3.2.1]; exact hL) ?_ (by rw [pw_day_f _ _ _ (by decide) (by decide) (by decide)]; exact hg6)
            rw [hr, show n - k = (n - (k + 1)) + 1 by omega, Nat.pow_succ, ← Nat.div_div_eq_div_mul]
            exact if_neg c77
          · exact absurd c_110 (by decide +kernel)
        · exact absurd c_91 (by decide +kernel)
      · have c77 : s / 2 ^ k % 2 = 1 := hbb.mp c_77
        refine J_iconst (n := 81) dX7_findOdds_80 kI_1 rfl ?_
        refine J_goto (tgt := 85) dX7_findOdds_81 (by decide) ?_
        refine J_istore (i := 8) (n := 87) (lv' := [(0, _), (1, _), (2, _), (3, _), (4, _), (5, _), (7, _), (8, _)]) dX7_findOdds_85 (by decide) rfl rfl ?_
        refine J_lload (i := 5) (n := 89) dX7_findOdds_87 rfl rfl ?_
        refine J_iload (i := 8) (n := 91) dX7_findOdds_89 rfl rfl ?_
        refine J_if_eq (tgt := 99) (n := 94) dX7_findOdds_91 (by decide) rfl (fun c_91 => ?_) (fun c_91 => ?_)
        · exact absurd c_91 (by decide +kernel)
        · refine J_iload_n (i := 1) (n := 95) dX7_findOdds_94 rfl rfl rfl ?_
          refine J_i2l (n := 96) dX7_findOdds_95 rfl ?_
          refine J_goto (tgt := 104) dX7_findOdds_96 (by decide) ?_
          rw [nI_l (by omega)]
          refine J_lmul (n := 105) dX7_findOdds_104 rfl ?_
          rw [lN_mul]
          refine J_lstore (i := 5) (n := 107) (lv' := [(0, _), (1, _), (2, _), (3, _), (4, _), (5, _), (7, _), (8, _)]) dX7_findOdds_105 (by decide) rfl rfl ?_
          refine J_aload_n (i := 0) (n := 108) dX7_findOdds_107 rfl rfl rfl ?_
          refine J_iload (i := 8) (n := 110) dX7_findOdds_108 rfl rfl ?_
          refine J_if_eq (tgt := 123) (n := 113) dX7_findOdds_110 (by decide) rfl (fun c_110 => ?_) (fun c_110 => ?_)
          · exact absurd c_110 (by decide +kernel)
          · refine J_aload_n (i := 0) (n := 114) dX7_findOdds_113 rfl rfl rfl ?_
            refine T_get (k := 1) (n := 117) wk_X7 dX7_findOdds_114 wf_X7_13 (by decide) (by decide) rfl rfl ?_
            refine J_bipush (n := 119) dX7_findOdds_117 kB_28 rfl ?_
            refine T_iald (c := 7) (k := 1) (N := 57) (n := 120) dX7_findOdds_119 (by decide) (by decide) rfl (vp_in_nI (by decide) (by decide)) rfl ?_
            rw [nI_clamp (by decide), hN2.1.2.2.2.1]
            refine J_goto (tgt := 127) dX7_findOdds_120 (by decide) ?_
            refine J_callVx (n := 130) wS_X7_dayGoesAt (c_M_dayGoesAt (Q := fun r h => r = none ∧ ∃ v3, mN v3 (pw_day q (q.2.2 8)) ∧ mE v2 v3 ∧ h = hp G (gs_set σ 7 0 v3)) (d + 5) (e := q.2.2 8) hN2 hOq hOq.2.2.2.2.2.2.1 (by omega) (fun v3 h1 h2 => ⟨rfl, v3, h1, h2, rfl⟩)) dX7_findOdds_127 wm_X7_185 ⟨wM_X7_dayGoesAt, wV_X7_dayGoesAt⟩ rfl (T_recv (by decide) (by decide)) rfl rfl (Nat.le_of_ble_eq_true rfl) rfl (fun r h1 hq1 => ?_)
            obtain ⟨rfl, v3, hN3, hE3, rfl⟩ := hq1
            refine J_inc (i := 7) (n := 133) (lv' := [(0, _), (1, _), (2, _), (3, _), (4, _), (5, _), (7, _), (8, _)]) dX7_findOdds_130 rfl (by decide) rfl rfl ?_
            refine J_goto (tgt := 63) dX7_findOdds_133 (by decide) ?_
            refine J_sub (lv' := [(0, _), (1, _), (2, _), (3, _), (4, _), (5, _), (7, _)]) (fun q hq => List.mem_append_left [(8, _)] hq) ?_
            refine ihu (k + 1) _ _ v3 (by omega) (by omega) (hm2.e hE3) hN3 (pw_day_ok hOq hOq.2.2.2.2.2.2.1) (by rw [pw_day_day]; omega) (Nat.le_trans h9q (pw_day_name hOq.2.2.2.2.2.2.2 _).1) (by rw [hE3.2.1]; exact hL) ?_ (by rw [pw_day_f _ _ _ (by decide) (by decide) (by decide)]; exact hg6)
            rw [hr, show n - k = (n - (k + 1)) + 1 by omega, Nat.pow_succ, ← Nat.div_div_eq_div_mul]
            exact if_pos c77
set_option maxHeartbeats 4000000 in
set_option maxRecDepth 100000 in
theorem j_fo_45 {G : gx_G} {σ : gs_S} {Q : Option Value → gx_Hp → Prop} {S : pS} (d : Nat) {a n : Nat} {o : Option Nat}  (ha : a ≤ 10) (hn : n ≤ 8) (hS : SOk S) (ho : ∀ j, o = some j → j < S.1.1.2.2 6) (hq : ∀ v1, mR v1 S → v1.2.2 20 = lN (su (rs (T1 o) a n 1 S.1.1) (2 ^ n)) → v1.2.2 21 = lN (su (rs (Tw none (S.1.1.2.2 9)) a n 1 S.1.1) (2 ^ n)) → v1.2.2 22 = lN (10 ^ n) → Q none (hp G (gs_set σ 7 0 v1))) : ∀ u s v1, 2 ^ n - s < u → s ≤ 2 ^ n → mR v1 S → (v1.2.2 20 = lN (su (rs (T1 o) a n 1 S.1.1) s) ∧ v1.2.2 21 = lN (su (rs (Tw none (S.1.1.2.2 9)) a n 1 S.1.1) s) ∧ v1.2.2 22 = lN (10 ^ n)) → gx_J G mX7_findOdds (d + 11) 0 0 Q 45 [(0, .ref (gs_a G 7 0 0)), (1, .int (nI a)), (2, .int (gM o)), (3, .int (nI n)), (4, .int (nI s))] [] (hp G (gs_set σ 7 0 v1)) := by
  have hB := hS.1.1.aB
  have h4 : S.1.1.2.2 6 ≤ 4 := hS.1.1.2.2.2.2.1
  have h2n := two_le n hn
  intro u
  induction u with
  | zero => intros; exact absurd (by assumption) (Nat.not_lt_zero _)
  | succ u ihu =>
    intro s v1 hu hs hm1 hsum
    refine J_iload (i := 4) (n := 47) dX7_findOdds_45 rfl rfl ?_
    refine J_iconst (n := 48) dX7_findOdds_47 kI_1 rfl ?_
    refine J_iload_n (i := 3) (n := 49) dX7_findOdds_48 rfl rfl rfl ?_
    refine J_ishl (n := 50) dX7_findOdds_49 rfl ?_
    rw [sh_all n (by omega)]
    refine J_icmp_ge (tgt := 188) (n := 53) dX7_findOdds_50 (by decide) rfl (fun c_50 => ?_) (fun c_50 => ?_)
    · rw [nI_leI (by omega) (by omega)] at c_50
      have ee : s = 2 ^ n := by omega
      subst ee
      refine J_vret dX7_findOdds_188 rfl ?_
      exact hq v1 hm1 hsum.1 hsum.2.1 hsum.2.2
    · rw [nI_leI (by omega) (by omega)] at c_50
      refine J_lconst (n := 54) dX7_findOdds_53 kL_1 rfl ?_
      refine J_lstore (i := 5) (n := 56) (lv' := [(0, _), (1, _), (2, _), (3, _), (4, _), (5, _)]) dX7_findOdds_54 (by decide) rfl rfl ?_
      refine J_aload_n (i := 0) (n := 57) dX7_findOdds_56 rfl rfl rfl ?_
      refine J_callVx (n := 60) wS_X7_starts (c_M_starts (Q := fun r h => r = none ∧ ∃ v2, mN v2 S.1.1 ∧ mF v1 v2 ∧ h = hp G (gs_set σ 7 0 v2)) (d + 10) (fun v2 k1 _ k3 k4 => ⟨rfl, v2, ⟨hm1.1.1.ext hB k1, by rw [k4]; exact hm1.1.2.2⟩, ⟨k3, k4, k1⟩, rfl⟩)) dX7_findOdds_57 wm_X7_201 ⟨wM_X7_starts, wV_X7_starts⟩ rfl (T_recv (by decide) (by decide)) rfl rfl (Nat.le_of_ble_eq_true rfl) rfl (fun r h1 hq1 => ?_)
      obtain ⟨rfl, v2, hN2, hF2, rfl⟩ := hq1
      refine J_iconst (n := 61) dX7_findOdds_60 kI_0 rfl ?_
      refine J_istore (i := 7) (n := 63) (lv' := [(0, _), (1, _), (2, _), (3, _), (4, _), (5, _), (7, _)]) dX7_findOdds_61 (by decide) rfl rfl ?_
      refine j_fo_63 (L := v1.2.2) d ha hn (by omega) hS (fun v2 w q hm2 hN2 hOq h9q hg6 hL hrun => ?_) (n + 1) 0 1 S.1.1 v2 (by omega) (by omega) (hm1.f hF2) hN2 hS.1.1 rfl (Nat.le_refl _) (by rw [hF2.2.1]) (by rw [Nat.pow_zero, Nat.div_one]; rfl) rfl
      have hl20 : v2.2.2 20 = lN (su (rs (T1 o) a n 1 S.1.1) s) := by rw [hL]; exact hsum.1
      have hl21 : v2.2.2 21 = lN (su (rs (Tw none (S.1.1.2.2 9)) a n 1 S.1.1) s) := by rw [hL]; exact hsum.2.1
      have hl22 : v2.2.2 22 = lN (10 ^ n) := by rw [hL]; exact hsum.2.2
      have hN0 : mN (gs_set σ 7 0 v2 7 0) q := by rw [gs_same]; exact hN2
      have hrs1 : rs (T1 o) a n 1 S.1.1 s = w * T1 o q := by unfold rs; rw [hrun]
      have hrs2 : rs (Tw none (S.1.1.2.2 9)) a n 1 S.1.1 s = w * (q.2.2 9 - S.1.1.2.2 9) := by unfold rs; rw [hrun]; rfl
      refine J_aload_n (i := 0) (n := 137) dX7_findOdds_136 rfl rfl rfl ?_
      refine J_dup (n := 138) dX7_findOdds_137 rfl rfl ?_
      refine T_get (k := 20) (n := 141) wk_X7 dX7_findOdds_138 wf_X7_272 (by decide) (by decide) rfl rfl ?_
      rw [hl20]
      refine J_iload_n (i := 2) (n := 142) dX7_findOdds_141 rfl rfl rfl ?_
      refine J_bipush (n := 144) dX7_findOdds_142 kB_m4 rfl ?_
      refine J_icmp_eq (tgt := 160) (n := 147) dX7_findOdds_144 (by decide) rfl (fun c_144 => ?_) (fun c_144 => ?_)
      · have hon := (gM_ne (fun j hj => by have := ho j hj; omega)).mp c_144
        refine J_lconst (n := 161) dX7_findOdds_160 kL_0 rfl ?_
        have ht1 : w * T1 o q = 0 := by rw [hon]; exact Nat.mul_zero _
        refine J_ladd (n := 162) dX7_findOdds_161 rfl ?_
        rw [lN_add, show su (rs (T1 o) a n 1 S.1.1) s + 0 = su (rs (T1 o) a n 1 S.1.1) s + rs (T1 o) a n 1 S.1.1 s by rw [hrs1, ht1]]
        have hN3 : mN (gs_set σ 7 0 (gs_l v2 20 (lN (su (rs (T1 o) a n 1 S.1.1) s + rs (T1 o) a n 1 S.1.1 s))) 7 0) q := by rw [gs_same]; exact hN2
        refine T_putL (k := 20) (n := 165) wk_X7 dX7_findOdds_162 wf_X7_272 (by decide) (by decide) rfl rfl (Nat.le_of_ble_eq_true rfl) rfl rfl ?_
        refine J_aload_n (i := 0) (n := 166) dX7_findOdds_165 rfl rfl rfl ?_
        refine J_dup (n := 167) dX7_findOdds_166 rfl rfl ?_
        refine T_get (k := 21) (n := 170) wk_X7 dX7_findOdds_167 wf_X7_276 (by decide) (by decide) rfl rfl ?_
        rw [gsl_n _ _ (by decide), hl21]
        refine J_lload (i := 5) (n := 172) dX7_findOdds_170 rfl rfl ?_
        refine J_aload_n (i := 0) (n := 173) dX7_findOdds_172 rfl rfl rfl ?_
        refine J_callVr (n := 176) wS_X7_nameMore (c_M_nameMore (d + 10) hN3 (n0 := S.1.1.2.2 9) (by rw [gs_same]; exact hm2.1.1.2.2.2.2.2.1) ⟨rfl, rfl⟩) dX7_findOdds_173 wm_X7_191 ⟨wM_X7_nameMore, wV_X7_nameMore⟩ rfl (T_recv (by decide) (by decide)) rfl rfl (Nat.le_of_ble_eq_true rfl) rfl ?_
        rw [pk_sub h9q]
        refine J_i2l (n := 177) dX7_findOdds_176 rfl ?_
        rw [nI_l (by have := hOq.2.2.2.2.2.2.2; omega)]
        refine J_lmul (n := 178) dX7_findOdds_177 rfl ?_
        rw [lN_mul, ← hrs2]
        refine J_ladd (n := 179) dX7_findOdds_178 rfl ?_
        rw [lN_add]
        refine T_putL (k := 21) (n := 182) wk_X7 dX7_findOdds_179 wf_X7_276 (by decide) (by decide) rfl rfl (Nat.le_of_ble_eq_true rfl) rfl rfl ?_
        refine J_inc (i := 4) (n := 185) (lv' := [(0, _), (1, _), (2, _), (3, _), (4, _), (5, _), (7, _)]) dX7_findOdds_182 rfl (by decide) rfl rfl ?_
        refine J_goto (tgt := 45) dX7_findOdds_185 (by decide) ?_
        refine J_sub (lv' := [(0, _), (1, _), (2, _), (3, _), (4, _)]) (fun q hq => List.mem_append_left [(5, _), (7, _)] hq) ?_
        refine ihu (s + 1) _ (by omega) (by omega) (hm2.q ((mQ.l _ _ _).tr (mQ.l _ _ _))) ⟨?_, ?_, ?_⟩
        · rw [gsl_n _ _ (by decide), gsl_s]; rfl
        · rw [gsl_s]; rfl
        · rw [gsl_n _ _ (by decide), gsl_n _ _ (by decide), hl22]
      · obtain ⟨j, rfl⟩ : ∃ j, o = some j := by
          cases o with
          | none => exact absurd rfl c_144
          | some j => exact ⟨j, rfl⟩
        have hj := ho j rfl
        refine J_aload_n (i := 0) (n := 148) dX7_findOdds_147 rfl rfl rfl ?_
        refine J_iload_n (i := 2) (n := 149) dX7_findOdds_148 rfl rfl rfl ?_
        refine J_callVr (n := 152) wS_X7_isPaired (c_M_isPaired (d + 9) (j := j) hN0 hOq.aB (by omega) ⟨rfl, rfl⟩) dX7_findOdds_149 wm_X7_157 ⟨wM_X7_isPaired, wV_X7_isPaired⟩ rfl (T_recv (by decide) (by decide)) rfl rfl (Nat.le_of_ble_eq_true rfl) rfl ?_
        refine J_if_eq (tgt := 160) (n := 155) dX7_findOdds_152 (by decide) rfl (fun c_152 => ?_) (fun c_152 => ?_)
        · have hpj := (nb_0 _).mp c_152
          refine J_lconst (n := 161) dX7_findOdds_160 kL_0 rfl ?_
          have ht1 : w * T1 (some j) q = 0 := by show w * (q.2.1 j).toNat = 0; rw [hpj]; exact Nat.mul_zero _
          refine J_ladd (n := 162) dX7_findOdds_161 rfl ?_
          rw [lN_add, show su (rs (T1 (some j)) a n 1 S.1.1) s + 0 = su (rs (T1 (some j)) a n 1 S.1.1) s + rs (T1 (some j)) a n 1 S.1.1 s by rw [hrs1, ht1]]
          have hN3 : mN (gs_set σ 7 0 (gs_l v2 20 (lN (su (rs (T1 (some j)) a n 1 S.1.1) s + rs (T1 (some j)) a n 1 S.1.1 s))) 7 0) q := by rw [gs_same]; exact hN2
          refine T_putL (k := 20) (n := 165) wk_X7 dX7_findOdds_162 wf_X7_272 (by decide) (by decide) rfl rfl (Nat.le_of_ble_eq_true rfl) rfl rfl ?_
          refine J_aload_n (i := 0) (n := 166) dX7_findOdds_165 rfl rfl rfl ?_
          refine J_dup (n := 167) dX7_findOdds_166 rfl rfl ?_
          refine T_get (k := 21) (n := 170) wk_X7 dX7_findOdds_167 wf_X7_276 (by decide) (by decide) rfl rfl ?_
          rw [gsl_n _ _ (by decide), hl21]
          refine J_lload (i := 5) (n := 172) dX7_findOdds_170 rfl rfl ?_
          refine J_aload_n (i := 0) (n := 173) dX7_findOdds_172 rfl rfl rfl ?_
          refine J_callVr (n := 176) wS_X7_nameMore (c_M_nameMore (d + 10) hN3 (n0 := S.1.1.2.2 9) (by rw [gs_same]; exact hm2.1.1.2.2.2.2.2.1) ⟨rfl, rfl⟩) dX7_findOdds_173 wm_X7_191 ⟨wM_X7_nameMore, wV_X7_nameMore⟩ rfl (T_recv (by decide) (by decide)) rfl rfl (Nat.le_of_ble_eq_true rfl) rfl ?_
          rw [pk_sub h9q]
          refine J_i2l (n := 177) dX7_findOdds_176 rfl ?_
          rw [nI_l (by have := hOq.2.2.2.2.2.2.2; omega)]
          refine J_lmul (n := 178) dX7_findOdds_177 rfl ?_
          rw [lN_mul, ← hrs2]
          refine J_ladd (n := 179) dX7_findOdds_178 rfl ?_
          rw [lN_add]
          refine T_putL (k := 21) (n := 182) wk_X7 dX7_findOdds_179 wf_X7_276 (by decide) (by decide) rfl rfl (Nat.le_of_ble_eq_true rfl) rfl rfl ?_
          refine J_inc (i := 4) (n := 185) (lv' := [(0, _), (1, _), (2, _), (3, _), (4, _), (5, _), (7, _)]) dX7_findOdds_182 rfl (by decide) rfl rfl ?_
          refine J_goto (tgt := 45) dX7_findOdds_185 (by decide) ?_
          refine J_sub (lv' := [(0, _), (1, _), (2, _), (3, _), (4, _)]) (fun q hq => List.mem_append_left [(5, _), (7, _)] hq) ?_
          refine ihu (s + 1) _ (by omega) (by omega) (hm2.q ((mQ.l _ _ _).tr (mQ.l _ _ _))) ⟨?_, ?_, ?_⟩
          · rw [gsl_n _ _ (by decide), gsl_s]; rfl
          · rw [gsl_s]; rfl
          · rw [gsl_n _ _ (by decide), gsl_n _ _ (by decide), hl22]
        · have hpj := (nb_t _).mp c_152
          refine J_lload (i := 5) (n := 157) dX7_findOdds_155 rfl rfl ?_
          refine J_goto (tgt := 161) dX7_findOdds_157 (by decide) ?_
          have ht1 : w * T1 (some j) q = w := by show w * (q.2.1 j).toNat = w; rw [hpj]; exact Nat.mul_one _
          refine J_ladd (n := 162) dX7_findOdds_161 rfl ?_
          rw [lN_add, show su (rs (T1 (some j)) a n 1 S.1.1) s + w = su (rs (T1 (some j)) a n 1 S.1.1) s + rs (T1 (some j)) a n 1 S.1.1 s by rw [hrs1, ht1]]
          have hN3 : mN (gs_set σ 7 0 (gs_l v2 20 (lN (su (rs (T1 (some j)) a n 1 S.1.1) s + rs (T1 (some j)) a n 1 S.1.1 s))) 7 0) q := by rw [gs_same]; exact hN2
          refine T_putL (k := 20) (n := 165) wk_X7 dX7_findOdds_162 wf_X7_272 (by decide) (by decide) rfl rfl (Nat.le_of_ble_eq_true rfl) rfl rfl ?_
          refine J_aload_n (i := 0) (n := 166) dX7_findOdds_165 rfl rfl rfl ?_
          refine J_dup (n := 167) dX7_findOdds_166 rfl rfl ?_
          refine T_get (k := 21) (n := 170) wk_X7 dX7_findOdds_167 wf_X7_276 (by decide) (by decide) rfl rfl ?_
          rw [gsl_n _ _ (by decide), hl21]
          refine J_lload (i := 5) (n := 172) dX7_findOdds_170 rfl rfl ?_
          refine J_aload_n (i := 0) (n := 173) dX7_findOdds_172 rfl rfl rfl ?_
          refine J_callVr (n := 176) wS_X7_nameMore (c_M_nameMore (d + 10) hN3 (n0 := S.1.1.2.2 9) (by rw [gs_same]; exact hm2.1.1.2.2.2.2.2.1) ⟨rfl, rfl⟩) dX7_findOdds_173 wm_X7_191 ⟨wM_X7_nameMore, wV_X7_nameMore⟩ rfl (T_recv (by decide) (by decide)) rfl rfl (Nat.le_of_ble_eq_true rfl) rfl ?_
          rw [pk_sub h9q]
          refine J_i2l (n := 177) dX7_findOdds_176 rfl ?_
          rw [nI_l (by have := hOq.2.2.2.2.2.2.2; omega)]
          refine J_lmul (n := 178) dX7_findOdds_177 rfl ?_
          rw [lN_mul, ← hrs2]
          refine J_ladd (n := 179) dX7_findOdds_178 rfl ?_
          rw [lN_add]
          refine T_putL (k := 21) (n := 182) wk_X7 dX7_findOdds_179 wf_X7_276 (by decide) (by decide) rfl rfl (Nat.le_of_ble_eq_true rfl) rfl rfl ?_
          refine J_inc (i := 4) (n := 185) (lv' := [(0, _), (1, _), (2, _), (3, _), (4, _), (5, _), (7, _)]) dX7_findOdds_182 rfl (by decide) rfl rfl ?_
          refine J_goto (tgt := 45) dX7_findOdds_185 (by decide) ?_
          refine J_sub (lv' := [(0, _), (1, _), (2, _), (3, _), (4, _)]) (fun q hq => List.mem_append_left [(5, _), (7, _)] hq) ?_
          refine ihu (s + 1) _ (by omega) (by omega) (hm2.q ((mQ.l _ _ _).tr (mQ.l _ _ _))) ⟨?_, ?_, ?_⟩
          · rw [gsl_n _ _ (by decide), gsl_s]; rfl
          · rw [gsl_s]; rfl
          · rw [gsl_n _ _ (by decide), gsl_n _ _ (by decide), hl22]
set_option maxHeartbeats 4000000 in
set_option maxRecDepth 100000 in
theorem c_M_findOdds {G : gx_G} {σ : gs_S} {Q : Option Value → gx_Hp → Prop} {S : pS} {v : gs_Ob} (d : Nat) {a n : Nat} {o : Option Nat} (hS : SOk S) (hm : mR v S) (ha : a ≤ 10) (hn : n ≤ 8) (ho : ∀ j, o = some j → j < S.1.1.2.2 6) (hq : ∀ v1, mR v1 S → v1.2.2 20 = lN (wb (T1 o) a n S.1.1) → v1.2.2 21 = lN (wb (Tw none (S.1.1.2.2 9)) a n S.1.1) → v1.2.2 22 = lN (10 ^ n) → Q none (hp G (gs_set σ 7 0 v1))) : gx_K G yX7_findOdds mX7_findOdds (d + 11) 0 0 [.ref (gs_a G 7 0 0), .int (nI a), .int (gM o), .int (nI n)] (hp G (gs_set σ 7 0 v)) Q := by
  have loop : ∀ u k v1, n - k < u → k ≤ n → mR v1 S → v1.2.2 20 = lN 0 → v1.2.2 21 = lN 0 → v1.2.2 22 = lN (10 ^ k) → gx_J G mX7_findOdds (d + 11) 0 0 Q 18 [(0, .ref (gs_a G 7 0 0)), (1, .int (nI a)), (2, .int (gM o)), (3, .int (nI n)), (4, .int (nI k))] [] (hp G (gs_set σ 7 0 v1)) := by
    intro u
    induction u with
    | zero => intros; exact absurd (by assumption) (Nat.not_lt_zero _)
    | succ u ih =>
      intro k v1 hu hk hm1 h20 h21 h22
      refine J_iload (i := 4) (n := 20) dX7_findOdds_18 rfl rfl ?_
      refine J_iload_n (i := 3) (n := 21) dX7_findOdds_20 rfl rfl rfl ?_
      refine J_icmp_ge (tgt := 42) (n := 24) dX7_findOdds_21 (by decide) rfl (fun c_21 => ?_) (fun c_21 => ?_)
      · refine J_iconst (n := 43) dX7_findOdds_42 kI_0 rfl ?_
        refine J_istore (i := 4) (n := 45) (lv' := [(0, _), (1, _), (2, _), (3, _), (4, _)]) dX7_findOdds_43 (by decide) rfl rfl ?_
        rw [nI_leI (by omega) (by omega)] at c_21
        have ee : k = n := by omega
        subst ee
        refine j_fo_45 d ha hn hS ho (fun v2 hm2 e1 e2 e3 => hq v2 hm2 ?_ ?_ e3) (2 ^ k + 1) 0 v1 (by rw [Nat.sub_zero]; exact Nat.lt_succ_self _) (Nat.zero_le _) hm1 ⟨h20, h21, h22⟩
        · rw [su_run, Nat.one_mul] at e1; exact e1
        · rw [su_run, Nat.one_mul] at e2; exact e2
      · rw [nI_leI (by omega) (by omega)] at c_21
        refine J_aload_n (i := 0) (n := 25) dX7_findOdds_24 rfl rfl rfl ?_
        refine J_dup (n := 26) dX7_findOdds_25 rfl rfl ?_
        refine T_get (k := 22) (n := 29) wk_X7 dX7_findOdds_26 wf_X7_279 (by decide) (by decide) rfl rfl ?_
        rw [h22]
        refine J_ldc2 (n := 32) dX7_findOdds_29 wd_X7_282 rfl ?_
        refine J_lmul (n := 33) dX7_findOdds_32 rfl ?_
        rw [show (10 : Int64) = lN 10 from rfl, lN_mul]
        refine T_putL (k := 22) (n := 36) wk_X7 dX7_findOdds_33 wf_X7_279 (by decide) (by decide) rfl rfl (Nat.le_of_ble_eq_true rfl) rfl rfl ?_
        refine J_inc (i := 4) (n := 39) (lv' := [(0, _), (1, _), (2, _), (3, _), (4, _)]) dX7_findOdds_36 rfl (by decide) rfl rfl ?_
        refine J_goto (tgt := 18) dX7_findOdds_39 (by decide) ?_
        exact ih (k + 1) _ (by omega) (by omega) (hm1.q (mQ.l _ _ _)) (by rw [gsl_n _ _ (by decide)]; exact h20) (by rw [gsl_n _ _ (by decide)]; exact h21) (by rw [gsl_s, Nat.pow_succ])
  refine gx_K.of' (lv := [(0, _), (1, _), (2, _), (3, _)]) (by decide) rfl (by decide) (Nat.le_of_ble_eq_true rfl) rfl ?_
  refine J_aload_n (i := 0) (n := 1) dX7_findOdds_0 rfl rfl rfl ?_
  refine J_lconst (n := 2) dX7_findOdds_1 kL_0 rfl ?_
  refine T_putL (k := 20) (n := 5) wk_X7 dX7_findOdds_2 wf_X7_272 (by decide) (by decide) rfl rfl (Nat.le_of_ble_eq_true rfl) rfl rfl ?_
  refine J_aload_n (i := 0) (n := 6) dX7_findOdds_5 rfl rfl rfl ?_
  refine J_lconst (n := 7) dX7_findOdds_6 kL_0 rfl ?_
  refine T_putL (k := 21) (n := 10) wk_X7 dX7_findOdds_7 wf_X7_276 (by decide) (by decide) rfl rfl (Nat.le_of_ble_eq_true rfl) rfl rfl ?_
  refine J_aload_n (i := 0) (n := 11) dX7_findOdds_10 rfl rfl rfl ?_
  refine J_lconst (n := 12) dX7_findOdds_11 kL_1 rfl ?_
  refine T_putL (k := 22) (n := 15) wk_X7 dX7_findOdds_12 wf_X7_279 (by decide) (by decide) rfl rfl (Nat.le_of_ble_eq_true rfl) rfl rfl ?_
  refine J_iconst (n := 16) dX7_findOdds_15 kI_0 rfl ?_
  refine J_istore (i := 4) (n := 18) (lv' := [(0, _), (1, _), (2, _), (3, _), (4, _)]) dX7_findOdds_16 (by decide) rfl rfl ?_
  refine loop (n + 1) 0 _ (by omega) (by omega) (hm.q (((mQ.l _ _ _).tr (mQ.l _ _ _)).tr (mQ.l _ _ _))) ?_ ?_ ?_
  · rw [gsl_n _ _ (by decide), gsl_n _ _ (by decide), gsl_s]
  · rw [gsl_n _ _ (by decide), gsl_s]
  · rw [gsl_s]

set_option maxHeartbeats 4000000 in
set_option maxRecDepth 100000 in
theorem c_N_luck {G : gx_G} {σ : gs_S} {Q : Option Value → gx_Hp → Prop} {S : pS} {v : gs_Ob} (d : Nat) (x g y w : Int32) (hS : SOk S) (hm : mR v S) (hq : ∀ v1, mR v1 S → Q (some (.long (sp_luck S x g y w))) (hp G (gs_set σ 7 0 v1))) : gx_K G yX7_luck mX7_luck (d + 12) 0 0 [.ref (gs_a G 7 0 0), .int x, .int g, .int y, .int w] (hp G (gs_set σ 7 0 v)) Q := by
  obtain ⟨⟨ha, hsn, hgl⟩, hkm, htp, hft, hsh⟩ := id hm
  have hO := hS.1.1
  have hB := hO.aB
  have h4 : S.1.1.2.2 6 ≤ 4 := hO.2.2.2.2.1
  have h6 : S.1.1.2.2 7 ≤ 6 := hO.2.2.2.2.2.1
  have hm11 : S.1.1.2.2 8 ≤ 11 := hO.2.2.2.2.2.2.1
  have hn9 : S.1.1.2.2 9 ≤ 9999 := hO.2.2.2.2.2.2.2
  have hd9 : S.1.1.2.2 10 ≤ 999 := hS.1.2.2.1
  have h160 : S.2.2.2.1.2 ≤ 160 := hS.2.2.1.1
  have e28 := ha.2.2.2.1
  have e29 := ha.2.2.2.2.1
  have e36 := ha.2.2.2.2.2.1
  have e37 := ha.2.2.2.2.2.2
  have g0 : gs_set σ 7 0 v 7 0 = v := gs_same _ _ _ _
  have hgl0 : (gs_set σ 7 0 v 7 0).2.1 3 = nI (S.1.1.2.2 6) := by rw [g0]; exact hgl
  have ha0 : aR ((gs_set σ 7 0 v 7 0).1 0) S.1.1 := by rw [g0]; exact ha
  refine gx_K.of' (lv := [(0, _), (1, _), (2, _), (3, _), (4, _)]) (by decide) rfl (by decide) (Nat.le_of_ble_eq_true rfl) rfl ?_
  refine J_iload_n (i := 1) (n := 1) dX7_luck_0 rfl rfl rfl ?_
  refine J_i2l (n := 2) dX7_luck_1 rfl ?_
  refine J_lconst (n := 3) dX7_luck_2 kL_0 rfl ?_
  refine J_ldc2 (n := 6) dX7_luck_3 wd_X7_282 rfl ?_
  
  refine J_callSr (n := 9) wS_X7_in (c_M_in (d + 11) x 10 (by decide) ⟨rfl, rfl⟩) dX7_luck_6 wm_X7_72 wT_X7_in rfl rfl (Nat.le_of_ble_eq_true rfl) rfl ?_
  refine J_if_eq (tgt := 40) (n := 12) dX7_luck_9 (by decide) rfl (fun c_9 => ?_) (fun c_9 => ?_)
  · refine J_ldc2 (n := 43) dX7_luck_40 wd_X7_286 rfl ?_
    refine J_lret dX7_luck_43 rfl ?_
    unfold sp_luck at hq
    rw [if_neg (by
      first
      | (rw [nb_0] at c_9; rw [c_9, Bool.false_and]; decide)
      | (rw [nb_0] at c_17; rw [show isG S g = false from c_17, Bool.false_and, Bool.and_false]; decide)
      | (rw [nb_0] at c_29; rw [c_29, Bool.false_and, Bool.and_false, Bool.and_false]; decide)
      | (rw [nb_0] at c_37; rw [c_37, Bool.and_false, Bool.and_false, Bool.and_false]; decide))] at hq
    exact hq v hm
  · refine J_aload_n (i := 0) (n := 13) dX7_luck_12 rfl rfl rfl ?_
    refine J_iload_n (i := 2) (n := 14) dX7_luck_13 rfl rfl rfl ?_
    refine J_callVr (n := 17) wS_X7_isGlove (c_M_isGlove (d + 10) g (S.1.1.2.2 6) hgl0 (by omega) ⟨rfl, rfl⟩) dX7_luck_14 wm_X7_210 ⟨wM_X7_isGlove, wV_X7_isGlove⟩ rfl (T_recv (by decide) (by decide)) rfl rfl (Nat.le_of_ble_eq_true rfl) rfl ?_
    refine J_if_eq (tgt := 40) (n := 20) dX7_luck_17 (by decide) rfl (fun c_17 => ?_) (fun c_17 => ?_)
    · refine J_ldc2 (n := 43) dX7_luck_40 wd_X7_286 rfl ?_
      refine J_lret dX7_luck_43 rfl ?_
      unfold sp_luck at hq
      rw [if_neg (by
        first
        | (rw [nb_0] at c_9; rw [c_9, Bool.false_and]; decide)
        | (rw [nb_0] at c_17; rw [show isG S g = false from c_17, Bool.false_and, Bool.and_false]; decide)
        | (rw [nb_0] at c_29; rw [c_29, Bool.false_and, Bool.and_false, Bool.and_false]; decide)
        | (rw [nb_0] at c_37; rw [c_37, Bool.and_false, Bool.and_false, Bool.and_false]; decide))] at hq
      exact hq v hm
    · refine J_iload_n (i := 3) (n := 21) dX7_luck_20 rfl rfl rfl ?_
      refine J_i2l (n := 22) dX7_luck_21 rfl ?_
      refine J_lconst (n := 23) dX7_luck_22 kL_0 rfl ?_
      refine J_ldc2 (n := 26) dX7_luck_23 wd_X7_284 rfl ?_
      refine J_callSr (n := 29) wS_X7_in (c_M_in (d + 11) y 8 (by decide) ⟨rfl, rfl⟩) dX7_luck_26 wm_X7_72 wT_X7_in rfl rfl (Nat.le_of_ble_eq_true rfl) rfl ?_
      refine J_if_eq (tgt := 40) (n := 32) dX7_luck_29 (by decide) rfl (fun c_29 => ?_) (fun c_29 => ?_)
      · refine J_ldc2 (n := 43) dX7_luck_40 wd_X7_286 rfl ?_
        refine J_lret dX7_luck_43 rfl ?_
        unfold sp_luck at hq
        rw [if_neg (by
          first
          | (rw [nb_0] at c_9; rw [c_9, Bool.false_and]; decide)
          | (rw [nb_0] at c_17; rw [show isG S g = false from c_17, Bool.false_and, Bool.and_false]; decide)
          | (rw [nb_0] at c_29; rw [c_29, Bool.false_and, Bool.and_false, Bool.and_false]; decide)
          | (rw [nb_0] at c_37; rw [c_37, Bool.and_false, Bool.and_false, Bool.and_false]; decide))] at hq
        exact hq v hm
      · refine J_iload (i := 4) (n := 34) dX7_luck_32 rfl rfl ?_
        refine J_callSr (n := 37) wS_X7_isPart (c_M_isPart (d + 10) w ⟨rfl, rfl⟩) dX7_luck_34 wm_X7_216 wT_X7_isPart rfl rfl (Nat.le_of_ble_eq_true rfl) rfl ?_
        refine J_if_ne (tgt := 44) (n := 40) dX7_luck_37 (by decide) rfl (fun c_37 => ?_) (fun c_37 => ?_)
        · rw [nb_t] at c_9 c_17 c_29 c_37
          unfold sp_luck at hq
          rw [if_pos (by rw [c_9, show isG S g = true from c_17, c_29, c_37]; rfl)] at hq
          obtain ⟨a, ha10, rfl⟩ := ix_of c_9 (by decide)
          obtain ⟨j, hj, rfl⟩ := isG_of (S := S) c_17 hO
          obtain ⟨n, hn8, rfl⟩ := ix_of c_29 (by decide)
          rw [nat_nI (by omega), nat_nI (by omega), nat_nI (by omega)] at hq
          refine J_aload_n (i := 0) (n := 45) dX7_luck_44 rfl rfl rfl ?_
          refine J_iload_n (i := 1) (n := 46) dX7_luck_45 rfl rfl rfl ?_
          refine J_iload_n (i := 2) (n := 47) dX7_luck_46 rfl rfl rfl ?_
          refine J_iload_n (i := 3) (n := 48) dX7_luck_47 rfl rfl rfl ?_
          refine J_callVx (n := 51) wS_X7_findOdds (c_M_findOdds (Q := fun r h => r = none ∧ ∃ v1, mR v1 S ∧ v1.2.2 20 = lN (wb (T1 (some j)) a n S.1.1) ∧ v1.2.2 21 = lN (wb (Tw none (S.1.1.2.2 9)) a n S.1.1) ∧ v1.2.2 22 = lN (10 ^ n) ∧ h = hp G (gs_set σ 7 0 v1)) d (o := (some j)) hS hm ha10 hn8 (by first | (intro q hq0; cases hq0; exact hj) | (intro q hq0; cases hq0)) (fun v1 k1 k2 k3 k4 => ⟨rfl, v1, k1, k2, k3, k4, rfl⟩)) dX7_luck_48 wm_X7_288 ⟨wM_X7_findOdds, wV_X7_findOdds⟩ rfl (T_recv (by decide) (by decide)) rfl rfl (Nat.le_of_ble_eq_true rfl) rfl (fun r h1 hq1 => ?_)
          obtain ⟨rfl, v1, hm1, l20, l21, l22, rfl⟩ := hq1
          refine J_aload_n (i := 0) (n := 52) dX7_luck_51 rfl rfl rfl ?_
          refine T_get (k := 20) (n := 55) wk_X7 dX7_luck_52 wf_X7_272 (by decide) (by decide) rfl rfl ?_
          rw [l20]
          refine J_aload_n (i := 0) (n := 56) dX7_luck_55 rfl rfl rfl ?_
          refine T_get (k := 22) (n := 59) wk_X7 dX7_luck_56 wf_X7_279 (by decide) (by decide) rfl rfl ?_
          rw [l22]
          refine J_iload (i := 4) (n := 61) dX7_luck_59 rfl rfl ?_
          refine J_callSr (n := 64) wS_X7_told (c_M_told (d + 10) (n := n) (a := wb (T1 (some j)) a n S.1.1) w hn8 (wb_lt (o := some j) (n0 := S.1.1.2.2 9) ha10 hn8 hn9) ⟨rfl, rfl⟩) dX7_luck_61 wm_X7_291 wT_X7_told rfl rfl (Nat.le_of_ble_eq_true rfl) rfl ?_
          refine J_lret dX7_luck_64 rfl ?_
          exact hq v1 hm1
        · refine J_ldc2 (n := 43) dX7_luck_40 wd_X7_286 rfl ?_
          refine J_lret dX7_luck_43 rfl ?_
          unfold sp_luck at hq
          rw [if_neg (by
            first
            | (rw [nb_0] at c_9; rw [c_9, Bool.false_and]; decide)
            | (rw [nb_0] at c_17; rw [show isG S g = false from c_17, Bool.false_and, Bool.and_false]; decide)
            | (rw [nb_0] at c_29; rw [c_29, Bool.false_and, Bool.and_false, Bool.and_false]; decide)
            | (rw [nb_0] at c_37; rw [c_37, Bool.and_false, Bool.and_false, Bool.and_false]; decide))] at hq
          exact hq v hm

set_option maxHeartbeats 4000000 in
set_option maxRecDepth 100000 in
theorem c_N_mean {G : gx_G} {σ : gs_S} {Q : Option Value → gx_Hp → Prop} {S : pS} {v : gs_Ob} (d : Nat) (x y w : Int32) (hS : SOk S) (hm : mR v S) (hq : ∀ v1, mR v1 S → Q (some (.long (sp_mean S x y w))) (hp G (gs_set σ 7 0 v1))) : gx_K G yX7_mean mX7_mean (d + 12) 0 0 [.ref (gs_a G 7 0 0), .int x, .int y, .int w] (hp G (gs_set σ 7 0 v)) Q := by
  obtain ⟨⟨ha, hsn, hgl⟩, hkm, htp, hft, hsh⟩ := id hm
  have hO := hS.1.1
  have hB := hO.aB
  have h4 : S.1.1.2.2 6 ≤ 4 := hO.2.2.2.2.1
  have h6 : S.1.1.2.2 7 ≤ 6 := hO.2.2.2.2.2.1
  have hm11 : S.1.1.2.2 8 ≤ 11 := hO.2.2.2.2.2.2.1
  have hn9 : S.1.1.2.2 9 ≤ 9999 := hO.2.2.2.2.2.2.2
  have hd9 : S.1.1.2.2 10 ≤ 999 := hS.1.2.2.1
  have h160 : S.2.2.2.1.2 ≤ 160 := hS.2.2.1.1
  have e28 := ha.2.2.2.1
  have e29 := ha.2.2.2.2.1
  have e36 := ha.2.2.2.2.2.1
  have e37 := ha.2.2.2.2.2.2
  have g0 : gs_set σ 7 0 v 7 0 = v := gs_same _ _ _ _
  have hgl0 : (gs_set σ 7 0 v 7 0).2.1 3 = nI (S.1.1.2.2 6) := by rw [g0]; exact hgl
  have ha0 : aR ((gs_set σ 7 0 v 7 0).1 0) S.1.1 := by rw [g0]; exact ha
  refine gx_K.of' (lv := [(0, _), (1, _), (2, _), (3, _)]) (by decide) rfl (by decide) (Nat.le_of_ble_eq_true rfl) rfl ?_
  refine J_iload_n (i := 1) (n := 1) dX7_mean_0 rfl rfl rfl ?_
  refine J_i2l (n := 2) dX7_mean_1 rfl ?_
  refine J_lconst (n := 3) dX7_mean_2 kL_0 rfl ?_
  refine J_ldc2 (n := 6) dX7_mean_3 wd_X7_282 rfl ?_
  refine J_callSr (n := 9) wS_X7_in (c_M_in (d + 11) x 10 (by decide) ⟨rfl, rfl⟩) dX7_mean_6 wm_X7_72 wT_X7_in rfl rfl (Nat.le_of_ble_eq_true rfl) rfl ?_
  refine J_if_eq (tgt := 31) (n := 12) dX7_mean_9 (by decide) rfl (fun c_9 => ?_) (fun c_9 => ?_)
  · refine J_ldc2 (n := 34) dX7_mean_31 wd_X7_286 rfl ?_
    refine J_lret dX7_mean_34 rfl ?_
    unfold sp_mean at hq
    rw [if_neg (by
      first
      | (rw [nb_0] at c_9; rw [c_9, Bool.false_and]; decide)
      | (rw [nb_0] at c_21; rw [c_21, Bool.false_and, Bool.and_false]; decide)
      | (rw [nb_0] at c_28; rw [c_28, Bool.and_false, Bool.and_false]; decide))] at hq
    exact hq v hm
  · refine J_iload_n (i := 2) (n := 13) dX7_mean_12 rfl rfl rfl ?_
    refine J_i2l (n := 14) dX7_mean_13 rfl ?_
    refine J_lconst (n := 15) dX7_mean_14 kL_0 rfl ?_
    refine J_ldc2 (n := 18) dX7_mean_15 wd_X7_284 rfl ?_
    refine J_callSr (n := 21) wS_X7_in (c_M_in (d + 11) y 8 (by decide) ⟨rfl, rfl⟩) dX7_mean_18 wm_X7_72 wT_X7_in rfl rfl (Nat.le_of_ble_eq_true rfl) rfl ?_
    refine J_if_eq (tgt := 31) (n := 24) dX7_mean_21 (by decide) rfl (fun c_21 => ?_) (fun c_21 => ?_)
    · refine J_ldc2 (n := 34) dX7_mean_31 wd_X7_286 rfl ?_
      refine J_lret dX7_mean_34 rfl ?_
      unfold sp_mean at hq
      rw [if_neg (by
        first
        | (rw [nb_0] at c_9; rw [c_9, Bool.false_and]; decide)
        | (rw [nb_0] at c_21; rw [c_21, Bool.false_and, Bool.and_false]; decide)
        | (rw [nb_0] at c_28; rw [c_28, Bool.and_false, Bool.and_false]; decide))] at hq
      exact hq v hm
    · refine J_iload_n (i := 3) (n := 25) dX7_mean_24 rfl rfl rfl ?_
      refine J_callSr (n := 28) wS_X7_isPart (c_M_isPart (d + 10) w ⟨rfl, rfl⟩) dX7_mean_25 wm_X7_216 wT_X7_isPart rfl rfl (Nat.le_of_ble_eq_true rfl) rfl ?_
      refine J_if_ne (tgt := 35) (n := 31) dX7_mean_28 (by decide) rfl (fun c_28 => ?_) (fun c_28 => ?_)
      · rw [nb_t] at c_9 c_21 c_28
        unfold sp_mean at hq
        rw [if_pos (by rw [c_9, c_21, c_28]; rfl)] at hq
        obtain ⟨a, ha10, rfl⟩ := ix_of c_9 (by decide)
        obtain ⟨n, hn8, rfl⟩ := ix_of c_21 (by decide)
        rw [nat_nI (by omega), nat_nI (by omega)] at hq
        refine J_aload_n (i := 0) (n := 36) dX7_mean_35 rfl rfl rfl ?_
        refine J_iload_n (i := 1) (n := 37) dX7_mean_36 rfl rfl rfl ?_
        refine J_bipush (n := 39) dX7_mean_37 kB_m4 rfl ?_
        refine J_iload_n (i := 2) (n := 40) dX7_mean_39 rfl rfl rfl ?_
        refine J_callVx (n := 43) wS_X7_findOdds (c_M_findOdds (Q := fun r h => r = none ∧ ∃ v1, mR v1 S ∧ v1.2.2 20 = lN (wb (T1 none) a n S.1.1) ∧ v1.2.2 21 = lN (wb (Tw none (S.1.1.2.2 9)) a n S.1.1) ∧ v1.2.2 22 = lN (10 ^ n) ∧ h = hp G (gs_set σ 7 0 v1)) d (o := none) hS hm ha10 hn8 (by first | (intro q hq0; cases hq0; exact hj) | (intro q hq0; cases hq0)) (fun v1 k1 k2 k3 k4 => ⟨rfl, v1, k1, k2, k3, k4, rfl⟩)) dX7_mean_40 wm_X7_288 ⟨wM_X7_findOdds, wV_X7_findOdds⟩ rfl (T_recv (by decide) (by decide)) rfl rfl (Nat.le_of_ble_eq_true rfl) rfl (fun r h1 hq1 => ?_)
        obtain ⟨rfl, v1, hm1, l20, l21, l22, rfl⟩ := hq1
        refine J_aload_n (i := 0) (n := 44) dX7_mean_43 rfl rfl rfl ?_
        refine T_get (k := 21) (n := 47) wk_X7 dX7_mean_44 wf_X7_276 (by decide) (by decide) rfl rfl ?_
        rw [l21]
        refine J_aload_n (i := 0) (n := 48) dX7_mean_47 rfl rfl rfl ?_
        refine T_get (k := 22) (n := 51) wk_X7 dX7_mean_48 wf_X7_279 (by decide) (by decide) rfl rfl ?_
        rw [l22]
        refine J_iload_n (i := 3) (n := 52) dX7_mean_51 rfl rfl rfl ?_
        refine J_callSr (n := 55) wS_X7_told (c_M_told (d + 10) (n := n) (a := wb (Tw none (S.1.1.2.2 9)) a n S.1.1) w hn8 (wb_lt ha10 hn8 hn9) ⟨rfl, rfl⟩) dX7_mean_52 wm_X7_291 wT_X7_told rfl rfl (Nat.le_of_ble_eq_true rfl) rfl ?_
        refine J_lret dX7_mean_55 rfl ?_
        exact hq v1 hm1
      · refine J_ldc2 (n := 34) dX7_mean_31 wd_X7_286 rfl ?_
        refine J_lret dX7_mean_34 rfl ?_
        unfold sp_mean at hq
        rw [if_neg (by
          first
          | (rw [nb_0] at c_9; rw [c_9, Bool.false_and]; decide)
          | (rw [nb_0] at c_21; rw [c_21, Bool.false_and, Bool.and_false]; decide)
          | (rw [nb_0] at c_28; rw [c_28, Bool.and_false, Bool.and_false]; decide))] at hq
        exact hq v hm

