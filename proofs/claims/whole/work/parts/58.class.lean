/-! ===== days on which he stays ===== -/
def wb (T : pw → Nat) (v : Nat) : Nat → pw → Nat
  | 0, p => T p
  | m + 1, p => v * wb T v m (pw_day p (p.2.2 8)) + (10 - v) * wb T v m (pw_days p 1)
def Tw (o : Option Nat) (n0 : Nat) (p : pw) : Nat := match o with
  | some j => (p.2.1 j).toNat
  | none => p.2.2 9 - n0
def gC (o : Option Nat) : Int32 := match o with
  | some j => nI j
  | none => -1
def fr (over n : Nat) (w : Int32) : Int64 := if w = 0 then lN (over / Nat.gcd (10 ^ n) over) else lN (10 ^ n / Nat.gcd (10 ^ n) over)
def sp_luck (S : pS) (v g n w : Int32) : Int64 := if (ix_in v 10 && (isG S g && (ix_in n 8 && ix_in w 1))) = true then fr (wb (Tw (some (nat g)) (S.1.1.2.2 9)) (nat v) (nat n) S.1.1) (nat n) w else -1
def sp_mean (S : pS) (v n w : Int32) : Int64 := if (ix_in v 10 && (ix_in n 8 && ix_in w 1)) = true then fr (wb (Tw none (S.1.1.2.2 9)) (nat v) (nat n) S.1.1) (nat n) w else -1
theorem lN_div {a b : Nat} (ha : a < 2 ^ 63) (hb : b < 2 ^ 63) : lN a / lN b = lN (a / b) := (Int64.ofNat_div ha hb).symm
theorem lN_rem {a b : Nat} (ha : a < 2 ^ 63) (hb : b < 2 ^ 63) : lN a - lN a / lN b * lN b = lN (a % b) := by
  rw [lN_div ha hb, lN_mul]
  have h : a = a % b + a / b * b := by rw [Nat.mul_comm]; exact (Nat.mod_add_div a b).symm
  have e : lN a = lN (a % b) + lN (a / b * b) := by rw [lN_add, ← h]
  rw [e, Int64.add_sub_cancel]
theorem lN_inj {a b : Nat} (ha : a < 2 ^ 63) (hb : b < 2 ^ 63) : lN a = lN b ↔ a = b := by
  constructor
  · intro h
    have h := congrArg Int64.toInt h
    unfold lN at h
    rw [Int64.toInt_ofNat_of_lt ha, Int64.toInt_ofNat_of_lt hb] at h
    exact Int.ofNat_inj.mp h
  · intro h; rw [h]
theorem lL_lt {a b : Nat} (ha : a < 2 ^ 63) (hb : b < 2 ^ 63) : lN a < lN b ↔ a < b := by
  rw [Int64.lt_iff_toInt_lt]
  unfold lN
  rw [Int64.toInt_ofNat_of_lt ha, Int64.toInt_ofNat_of_lt hb]
  exact Int.ofNat_lt
theorem lc_0 {b : Nat} (hb : b < 2 ^ 63) : lg_cmp (lN b) (lN 0) = 0 ↔ b = 0 := by
  by_cases h : b = 0
  · subst h; exact ⟨fun _ => rfl, fun _ => by decide +kernel⟩
  · refine ⟨fun h1 => absurd h1 ?_, fun h1 => absurd h1 h⟩
    unfold lg_cmp
    rw [if_pos (show lN b > lN 0 from (lL_lt (by decide) hb).mpr (by omega))]
    decide +kernel
theorem lc_le0 {b : Nat} (hb : b < 2 ^ 63) : lg_cmp (lN b) (lN 0) ≤ 0 ↔ b = 0 := by
  by_cases h : b = 0
  · subst h; exact ⟨fun _ => rfl, fun _ => by decide +kernel⟩
  · refine ⟨fun h1 => absurd h1 ?_, fun h1 => absurd h1 h⟩
    unfold lg_cmp
    rw [if_pos (show lN b > lN 0 from (lL_lt (by decide) hb).mpr (by omega))]
    decide +kernel
def eu : Nat → Nat → Nat → Nat
  | 0, a, _ => a
  | m + 1, a, b => if b = 0 then a else eu m b (a % b)
theorem eu_0 (m a : Nat) : eu m a 0 = a := by cases m <;> rfl
theorem eu_s (m a b : Nat) : eu (m + 1) a b = if b = 0 then a else eu m b (a % b) := rfl
theorem eu_gcd : ∀ k m a b, b ≤ a → a < 2 ^ k → 2 * k ≤ m → eu m a b = Nat.gcd a b := by
  intro k
  induction k with
  | zero =>
    intro m a b h1 h2 h3
    have ea : a = 0 := by omega
    subst ea
    have eb : b = 0 := by omega
    subst eb
    rw [eu_0]; rfl
  | succ k ih =>
    intro m a b h1 h2 h3
    by_cases hb : b = 0
    · subst hb; rw [eu_0, Nat.gcd_zero_right]
    · obtain ⟨m, rfl⟩ : ∃ m', m = m' + 2 := ⟨m - 2, by omega⟩
      rw [eu_s, if_neg hb, eu_s]
      have e1 : Nat.gcd a b = Nat.gcd b (a % b) := by rw [Nat.gcd_comm, Nat.gcd_rec, Nat.gcd_comm]
      by_cases hr : a % b = 0
      · rw [if_pos hr, e1, hr, Nat.gcd_zero_right]
      · rw [if_neg hr]
        have hlt : a % b < b := Nat.mod_lt _ (by omega)
        have hd := Nat.mod_add_div a b
        have hq : 1 ≤ a / b := (Nat.le_div_iff_mul_le (by omega)).mpr (by omega)
        have hm := Nat.mul_le_mul_left b hq
        have hmod : b % (a % b) < a % b := Nat.mod_lt _ (by omega)
        rw [ih m (a % b) (b % (a % b)) (by omega) (by rw [Nat.pow_succ] at h2; omega) (by omega), e1]
        rw [Nat.gcd_comm b, Nat.gcd_rec (a % b) b, Nat.gcd_comm]
theorem eu_all {a b : Nat} (ha : a < 2 ^ 40) (hb : b < 2 ^ 40) : eu 100 a b = Nat.gcd a b := by
  by_cases h : b ≤ a
  · exact eu_gcd 40 100 a b h ha (by decide)
  · rw [show (100 : Nat) = 99 + 1 from rfl, eu_s, if_neg (by omega), Nat.mod_eq_of_lt (by omega), eu_gcd 40 99 b a (by omega) hb (by decide), Nat.gcd_comm]
theorem wb_le {o : Option Nat} {n0 v : Nat} (hv : v ≤ 10) : ∀ m p, p.2.2 9 ≤ 9999 → wb (Tw o n0) v m p ≤ 9999 * 10 ^ m := by
  intro m
  induction m with
  | zero =>
    intro p hp0
    show Tw o n0 p ≤ 9999 * 1
    cases o with
    | some j =>
      show (p.2.1 j).toNat ≤ _
      cases p.2.1 j <;> decide
    | none => show p.2.2 9 - n0 ≤ _; omega
  | succ m ih =>
    intro p hp0
    have h1 := Nat.mul_le_mul_left v (ih (pw_day p (p.2.2 8)) (pw_day_name hp0 _).2)
    have h2 := Nat.mul_le_mul_left (10 - v) (ih (pw_days p 1) (pw_days_name hp0 _).2)
    have h3 : v * (9999 * 10 ^ m) + (10 - v) * (9999 * 10 ^ m) = 10 * (9999 * 10 ^ m) := by rw [← Nat.add_mul, show v + (10 - v) = 10 by omega]
    show v * wb (Tw o n0) v m (pw_day p (p.2.2 8)) + (10 - v) * wb (Tw o n0) v m (pw_days p 1) ≤ 9999 * 10 ^ (m + 1)
    rw [Nat.pow_succ]
    omega
theorem ten_le : ∀ n, n ≤ 8 → 10 ^ n ≤ 100000000 ∧ 1 ≤ 10 ^ n := by decide
theorem wb_lt {o : Option Nat} {n0 v n : Nat} {p : pw} (hv : v ≤ 10) (hn : n ≤ 8) (h9 : p.2.2 9 ≤ 9999) : wb (Tw o n0) v n p < 2 ^ 40 := by
  have h1 := wb_le (o := o) (n0 := n0) hv n p h9
  have h2 := (ten_le n hn).1
  omega
theorem bv_all : ∀ b0 b1 b2 b3 : Bool, ∀ j, j < 4 → (nI (b0.toNat + 2 * b1.toNat + 4 * b2.toNat + 8 * b3.toNat) >>> (nI j &&& 31)) &&& nI 1 = nI (if j = 0 then b0 else if j = 1 then b1 else if j = 2 then b2 else b3).toNat := by decide +kernel
theorem bv_bit (f : Nat → Bool) {j : Nat} (hj : j < 4) : (nI (pw_bits f) >>> (nI j &&& 31)) &&& nI 1 = nI (f j).toNat := by
  have h := bv_all (f 0) (f 1) (f 2) (f 3) j hj
  rcases (show j = 0 ∨ j = 1 ∨ j = 2 ∨ j = 3 by omega) with rfl | rfl | rfl | rfl <;> exact h
theorem gC_ne {o : Option Nat} (ho : ∀ j, o = some j → j < 4) : gC o = -1 ↔ o = none := by
  cases o with
  | none => exact ⟨fun _ => rfl, fun _ => rfl⟩
  | some j =>
    have h := ho j rfl
    refine ⟨fun h1 => absurd h1 ?_, fun h1 => by cases h1⟩
    show ¬ nI j = -1
    rcases (show j = 0 ∨ j = 1 ∨ j = 2 ∨ j = 3 by omega) with rfl | rfl | rfl | rfl <;> decide +kernel
theorem J_mmaxL {G : gx_G} {M : gx_M} {d kc ks : Nat} {Q : Option Value → gx_Hp → Prop} {pc n : Nat} {lv : List (Nat × Value)} {rest : List Value} {h : gx_Hp} {index : Nat} {x y : Int64} (hd : decode M.2.1 pc = .ok (.invokestatic index, 3)) (hw : Cond.methodLink M.1 index Lib.MathLoose.max_long.x ∈ gx_ws) (hw1 : Cond.static Lib.MathLoose.max_long.x ∈ gx_ws ∧ Cond.initialized "java/lang/Math" ∈ gx_ws ∧ Cond.code Lib.MathLoose.max_long.x Lib.MathLoose.max_long.code 4 (some .long) ∈ gx_ws) (hst : (rest.map fun v => v.category).sum ≤ 8) (hn : pc + 3 = n) (k : gx_J G M (d + 1) kc ks Q n lv (.long (if y < x then x else y) :: rest) h) : gx_J G M (d + 1) kc ks Q pc lv (.long y :: .long x :: rest) h := by
  subst hn
  intro p l e R s m args below meth c H locs cells slots ls A hR hL hl hcc hs
  have hts := A.2.2.2.2.2.2.2.1
  have hfr := A.2.2.2.2.2.2.2.2.2.1
  have hlo := A.2.2.2.2.2.2.2.2.2.2
  exact va_mmax_long A.1 A.2.1 (A.2.2.1.trans hl.1.symm) A.2.2.2.2.2.1 (hts _ hw) (hts _ hw1.1) (hts _ hw1.2.1) (hts _ hw1.2.2) (by omega) (by omega) (by omega) (by omega) hd (k p l e R s m args below meth c H locs cells slots ls A hR hL hl hcc hs)
set_option maxHeartbeats 4000000 in
set_option maxRecDepth 100000 in
theorem c_commonDivisor {G : gx_G} {h : gx_Hp} {Q : Option Value → gx_Hp → Prop} (d : Nat) {a b : Nat} (h1 : 1 ≤ a) (ha : a < 2 ^ 40) (hb : b < 2 ^ 40) (hq : Q (some (.long (lN (Nat.gcd a b)))) h) : gx_K G yX6_commonDivisor mX6_commonDivisor (d + 1) 0 0 [.long (lN a), .long (lN b)] h Q := by
  have hg1 : 1 ≤ Nat.gcd a b := Nat.gcd_pos_of_pos_left _ (by omega)
  have loop : ∀ u e x y, 100 - e < u → e ≤ 100 → x < 2 ^ 41 → y < 2 ^ 41 → eu (100 - e) x y = Nat.gcd a b → gx_J G mX6_commonDivisor (d + 1) 0 0 Q 9 [(0, .long (lN a)), (2, .long (lN b)), (4, .long (lN x)), (6, .long (lN y)), (8, .int (nI e))] [] (h) := by
    intro u
    induction u with
    | zero => intros; exact absurd (by assumption) (Nat.not_lt_zero _)
    | succ u ih =>
      intro e x y hu he hx hy hr
      refine J_iload (i := 8) (n := 11) dX6_commonDivisor_9 rfl rfl ?_
      refine J_bipush (n := 13) dX6_commonDivisor_11 kB_100 rfl ?_
      refine J_icmp_ge (tgt := 44) (n := 16) dX6_commonDivisor_13 (by decide) rfl (fun c_13 => ?_) (fun c_13 => ?_)
      · refine J_lload (i := 4) (n := 46) dX6_commonDivisor_44 rfl rfl ?_
        refine J_lconst (n := 47) dX6_commonDivisor_46 kL_1 rfl ?_
        have hx1 : x = Nat.gcd a b := by
          first
          | (rw [lc_le0 (by omega)] at c_20
             rw [c_20, eu_0] at hr
             exact hr)
          | (rw [nI_leI (by omega) (by omega)] at c_13
             rw [show 100 - e = 0 by omega] at hr
             exact hr)
        refine J_mmaxL (n := 50) dX6_commonDivisor_47 wm_X6_292 ⟨wT_J9_max_f86c9, wI_J9, wC_J9_max_f86c9⟩ (Nat.le_of_ble_eq_true rfl) rfl ?_
        refine J_lret dX6_commonDivisor_50 rfl ?_
        rw [hx1]
        have hmx : (if lN 1 < lN (Nat.gcd a b) then lN (Nat.gcd a b) else lN 1) = lN (Nat.gcd a b) := by
          split
          · rfl
          · next hl =>
            rw [lL_lt (by decide) (by omega)] at hl
            rw [show Nat.gcd a b = 1 by omega]
        rw [hmx]
        exact hq
      · rw [nI_leI (by omega) (by omega)] at c_13
        refine J_lload (i := 6) (n := 18) dX6_commonDivisor_16 rfl rfl ?_
        refine J_lconst (n := 19) dX6_commonDivisor_18 kL_0 rfl ?_
        refine J_lcmp (n := 20) dX6_commonDivisor_19 rfl ?_
        refine J_if_le (tgt := 44) (n := 23) dX6_commonDivisor_20 (by decide) rfl (fun c_20 => ?_) (fun c_20 => ?_)
        · refine J_lload (i := 4) (n := 46) dX6_commonDivisor_44 rfl rfl ?_
          refine J_lconst (n := 47) dX6_commonDivisor_46 kL_1 rfl ?_
          have hx1 : x = Nat.gcd a b := by
            first
            | (rw [lc_le0 (by omega)] at c_20
               rw [c_20, eu_0] at hr
               exact hr)
            | (rw [nI_leI (by omega) (by omega)] at c_13
               rw [show 100 - e = 0 by omega] at hr
               exact hr)
          refine J_mmaxL (n := 50) dX6_commonDivisor_47 wm_X6_292 ⟨wT_J9_max_f86c9, wI_J9, wC_J9_max_f86c9⟩ (Nat.le_of_ble_eq_true rfl) rfl ?_
          refine J_lret dX6_commonDivisor_50 rfl ?_
          rw [hx1]
          have hmx : (if lN 1 < lN (Nat.gcd a b) then lN (Nat.gcd a b) else lN 1) = lN (Nat.gcd a b) := by
            split
            · rfl
            · next hl =>
              rw [lL_lt (by decide) (by omega)] at hl
              rw [show Nat.gcd a b = 1 by omega]
          rw [hmx]
          exact hq
        · rw [lc_le0 (by omega)] at c_20
          refine J_lload (i := 4) (n := 25) dX6_commonDivisor_23 rfl rfl ?_
          refine J_lload (i := 6) (n := 27) dX6_commonDivisor_25 rfl rfl ?_
          refine J_lrem (n := 28) dX6_commonDivisor_27 (fun q => c_20 ((lN_inj (b := 0) (by omega) (by omega)).mp q)) rfl ?_
          rw [lN_rem (by omega) (by omega)]
          refine J_lstore (i := 9) (n := 30) (lv' := [(0, _), (2, _), (4, _), (6, _), (8, _), (9, _)]) dX6_commonDivisor_28 (by decide) rfl rfl ?_
          refine J_lload (i := 6) (n := 32) dX6_commonDivisor_30 rfl rfl ?_
          refine J_lstore (i := 4) (n := 34) (lv' := [(0, _), (2, _), (4, _), (6, _), (8, _), (9, _)]) dX6_commonDivisor_32 (by decide) rfl rfl ?_
          refine J_lload (i := 9) (n := 36) dX6_commonDivisor_34 rfl rfl ?_
          refine J_lstore (i := 6) (n := 38) (lv' := [(0, _), (2, _), (4, _), (6, _), (8, _), (9, _)]) dX6_commonDivisor_36 (by decide) rfl rfl ?_
          refine J_inc (i := 8) (n := 41) (lv' := [(0, _), (2, _), (4, _), (6, _), (8, _), (9, _)]) dX6_commonDivisor_38 rfl (by decide) rfl rfl ?_
          refine J_goto (tgt := 9) dX6_commonDivisor_41 (by decide) ?_
          refine J_sub (lv' := [(0, _), (2, _), (4, _), (6, _), (8, _)]) (fun q hq => List.mem_append_left [(9, _)] hq) ?_
          refine ih (e + 1) y (x % y) (by omega) (by omega) hy (by have := Nat.mod_lt x (y := y) (by omega); omega) ?_
          rw [show 100 - e = (100 - (e + 1)) + 1 by omega, eu_s, if_neg c_20] at hr
          exact hr
  refine gx_K.of' (lv := [(0, _), (2, _)]) (by decide) rfl (by decide) (Nat.le_of_ble_eq_true rfl) rfl ?_
  refine J_lload_n (i := 0) (n := 1) dX6_commonDivisor_0 rfl rfl rfl ?_
  refine J_lstore (i := 4) (n := 3) (lv' := [(0, _), (2, _), (4, _)]) dX6_commonDivisor_1 (by decide) rfl rfl ?_
  refine J_lload_n (i := 2) (n := 4) dX6_commonDivisor_3 rfl rfl rfl ?_
  refine J_lstore (i := 6) (n := 6) (lv' := [(0, _), (2, _), (4, _), (6, _)]) dX6_commonDivisor_4 (by decide) rfl rfl ?_
  refine J_iconst (n := 7) dX6_commonDivisor_6 kI_0 rfl ?_
  refine J_istore (i := 8) (n := 9) (lv' := [(0, _), (2, _), (4, _), (6, _), (8, _)]) dX6_commonDivisor_7 (by decide) rfl rfl ?_
  exact loop 101 0 a b (by omega) (by omega) (by omega) (by omega) (eu_all ha hb)

theorem nI_le0 {v : Nat} (h : v < 2 ^ 31) : nI v ≤ 0 ↔ v = 0 := by
  rw [show (0 : Int32) = nI 0 from rfl, nI_leI h (by decide)]; omega
set_option maxHeartbeats 4000000 in
set_option maxRecDepth 100000 in
theorem c_G_weighed {G : gx_G} {o : Option Nat} {v n n0 : Nat} (hv : v ≤ 10) (hn : n ≤ 8) (ho : ∀ j, o = some j → j < 4) : ∀ m, ∀ {σ : gs_S} {Q : Option Value → gx_Hp → Prop} {p : pw} (d dep : Nat), dep + m = n → wR (σ 5 (2 + dep)) p → pOk p → p.2.2 10 + m ≤ 2000 → (σ 5 2).2.1 9 = nI n0 → n0 ≤ p.2.2 9 → (∀ τ, (∀ c i, ¬ (c = 5 ∧ 3 + dep ≤ i ∧ i ≤ 10) → τ c i = σ c i) → Q (some (.long (lN (wb (Tw o n0) v m p)))) (hp G τ)) → gx_K G yX6_weighedBranches mX6_weighedBranches (d + m + 6) 0 0 [.ref (gs_a G 6 0 4), .int (nI dep), .int (nI n), .int (nI v), .int (gC o)] (hp G σ) Q := by
  intro m
  induction m with
  | zero =>
    intro σ Q p d dep hdm hw hO hday h0 hn0 hq
    have hk5 : 2 + dep < gs_cnt 5 := by show 2 + dep < 14; omega
    refine gx_K.of' (lv := [(0, _), (1, _), (2, _), (3, _), (4, _)]) (by decide) rfl (by decide) (Nat.le_of_ble_eq_true rfl) rfl ?_
    refine J_aload_n (i := 0) (n := 1) dX6_weighedBranches_0 rfl rfl rfl ?_
    refine J_iload_n (i := 1) (n := 2) dX6_weighedBranches_1 rfl rfl rfl ?_
    refine T_aald (k := 3) (t := 3) (N := 9) (n := 3) dX6_weighedBranches_2 (by decide) rfl rfl (vp_in_nI (by omega) (by decide)) rfl rfl ?_
    rw [nI_clamp (by omega)]
    refine J_astore (i := 5) (n := 5) (lv' := [(0, _), (1, _), (2, _), (3, _), (4, _), (5, _)]) dX6_weighedBranches_3 (by decide) rfl rfl ?_
    refine J_iload_n (i := 1) (n := 6) dX6_weighedBranches_5 rfl rfl rfl ?_
    refine J_iload_n (i := 2) (n := 7) dX6_weighedBranches_6 rfl rfl rfl ?_
    refine J_icmp_ge (tgt := 18) (n := 10) dX6_weighedBranches_7 (by decide) rfl (fun c_7 => ?_) (fun c_7 => ?_)
    · refine J_iload (i := 4) (n := 20) dX6_weighedBranches_18 rfl rfl ?_
      refine J_iconst (n := 21) dX6_weighedBranches_20 kI_m1 rfl ?_
      refine J_icmp_ne (tgt := 40) (n := 24) dX6_weighedBranches_21 (by decide) rfl (fun c_21 => ?_) (fun c_21 => ?_)
      · 
        refine J_aload (i := 5) (n := 42) dX6_weighedBranches_40 rfl rfl ?_
        refine T_getO (k := 5) (n := 45) wk_X5 dX6_weighedBranches_42 wf_X6_111 (by decide) hk5 rfl rfl ?_
        rw [hw.2.2.2.1]
        refine J_iload (i := 4) (n := 47) dX6_weighedBranches_45 rfl rfl ?_
        obtain ⟨j, rfl⟩ : ∃ j, o = some j := by
          cases o with
          | none => exact absurd rfl c_21
          | some j => exact ⟨j, rfl⟩
        have hj := ho j rfl
        show gx_J G _ _ _ _ _ 47 _ [.int (nI j), .int (nI (pw_bits p.2.1))] _
        refine J_ishr (n := 48) dX6_weighedBranches_47 rfl ?_
        refine J_iconst (n := 49) dX6_weighedBranches_48 kI_1 rfl ?_
        refine J_iand (n := 50) dX6_weighedBranches_49 rfl ?_
        rw [bv_bit _ hj]
        refine J_i2l (n := 51) dX6_weighedBranches_50 rfl ?_
        rw [nI_l (by cases p.2.1 j <;> decide)]
        refine J_lret dX6_weighedBranches_51 rfl ?_
        exact hq σ (fun _ _ _ => rfl)
      · have hon := (gC_ne ho).mp c_21
        refine J_aload (i := 5) (n := 26) dX6_weighedBranches_24 rfl rfl ?_
        refine T_getO (k := 9) (n := 29) wk_X5 dX6_weighedBranches_26 wf_X6_108 (by decide) hk5 rfl rfl ?_
        rw [hw.2.2.2.2 9 (by decide) (by decide)]
        refine J_aload_n (i := 0) (n := 30) dX6_weighedBranches_29 rfl rfl rfl ?_
        refine J_iconst (n := 31) dX6_weighedBranches_30 kI_0 rfl ?_
        refine T_aald (k := 3) (t := 3) (N := 9) (n := 32) dX6_weighedBranches_31 (by decide) rfl rfl (vp_in_nI (by omega) (by decide)) rfl rfl ?_
        rw [nI_clamp (by decide)]
        refine T_getO (k := 9) (n := 35) wk_X5 dX6_weighedBranches_32 wf_X6_108 (by decide) (by decide) rfl rfl ?_
        rw [h0]
        refine J_isub (n := 36) dX6_weighedBranches_35 rfl ?_
        rw [pk_sub hn0]
        refine J_i2l (n := 37) dX6_weighedBranches_36 rfl ?_
        rw [nI_l (by have := hO.2.2.2.2.2.2.2; omega)]
        have h1 := hq σ (fun _ _ _ => rfl)
        rw [hon] at h1
        refine J_goto (tgt := 51) dX6_weighedBranches_37 (by decide) ?_
        refine J_lret dX6_weighedBranches_51 rfl ?_
        exact h1
    · exfalso
      rw [nI_leI (by omega) (by omega)] at c_7
      omega
  | succ m ih =>
    intro σ Q p d dep hdm hw hO hday h0 hn0 hq
    have h9 : p.2.2 9 ≤ 9999 := hO.2.2.2.2.2.2.2
    have hk5 : 2 + dep < gs_cnt 5 := by show 2 + dep < 14; omega
    have hk6 : 2 + (dep + 1) < gs_cnt 5 := by show 2 + (dep + 1) < 14; omega
    have k102 : ∀ τ, (∀ c i, ¬ (c = 5 ∧ 3 + dep ≤ i ∧ i ≤ 10) → τ c i = σ c i) → gx_J G mX6_weighedBranches (d + (m + 1) + 6) 0 0 Q 102 [(0, .ref (gs_a G 6 0 4)), (1, .int (nI dep)), (2, .int (nI n)), (3, .int (nI v)), (4, .int (gC o)), (5, .ref (gs_a G 5 (2 + dep) 0)), (6, .ref (gs_a G 5 (2 + (dep + 1)) 0)), (7, .long (lN (v * wb (Tw o n0) v m (pw_day p (p.2.2 8)))))] [] (hp G τ) := by
      intro τ hfr
      have hwt : wR (τ 5 (2 + dep)) p := by rw [hfr 5 (2 + dep) (by omega)]; exact hw
      refine J_iload_n (i := 3) (n := 103) dX6_weighedBranches_102 rfl rfl rfl ?_
      refine J_bipush (n := 105) dX6_weighedBranches_103 kB_10 rfl ?_
      refine J_icmp_ge (tgt := 143) (n := 108) dX6_weighedBranches_105 (by decide) rfl (fun c_105 => ?_) (fun c_105 => ?_)
      · refine J_lload (i := 7) (n := 145) dX6_weighedBranches_143 rfl rfl ?_
        refine J_lret dX6_weighedBranches_145 rfl ?_
        first
        | (exact hq τ1 (fun c i hn => by rw [hf1 c i (fun q => hn ⟨q.1, by omega, q.2.2⟩), gs_ne (fun q => hn ⟨q.1, by omega, by omega⟩)]; exact hfr c i hn))
        | (rw [nI_leI (by omega) (by omega)] at c_105
           have ev : v = 10 := by omega
           have h1 := hq τ hfr
           have hs : wb (Tw o n0) v (m + 1) p = v * wb (Tw o n0) v m (pw_day p (p.2.2 8)) := by
             show v * wb (Tw o n0) v m (pw_day p (p.2.2 8)) + (10 - v) * wb (Tw o n0) v m (pw_days p 1) = _
             rw [show 10 - v = 0 by omega, Nat.zero_mul, Nat.add_zero]
           rw [hs] at h1
           exact h1)
      · refine J_aload (i := 6) (n := 110) dX6_weighedBranches_108 rfl rfl ?_
        refine J_aload (i := 5) (n := 112) dX6_weighedBranches_110 rfl rfl ?_
        refine J_callVx (n := 115) wS_X5_become (K_eta 5 (2 + (dep + 1)) (c_W_become (Q := fun r h => r = none ∧ ∃ t1, wR t1 p ∧ h = hp G (gs_set τ 5 (2 + (dep + 1)) t1)) (d + m + 5) (i := (2 + (dep + 1))) (j := 2 + dep) hk6 hk5 (by omega) hwt hO (fun t1 h1 => ⟨rfl, t1, h1, rfl⟩))) dX6_weighedBranches_112 wm_X6_85 ⟨wM_X5_become, wV_X5_become⟩ rfl (T_recv (by decide) hk6) rfl rfl (Nat.le_of_ble_eq_true rfl) rfl (fun r h1 hq1 => ?_)
        obtain ⟨rfl, t1, hw1, rfl⟩ := hq1
        refine J_aload (i := 6) (n := 117) dX6_weighedBranches_115 rfl rfl ?_
        refine J_iconst (n := 118) dX6_weighedBranches_117 kI_1 rfl ?_
        refine J_callVx (n := 121) wS_X5_passDays (c_W_passDays (Q := fun r h => r = none ∧ ∃ t2, wR t2 (pw_days p 1) ∧ h = hp G (gs_set τ 5 (2 + (dep + 1)) t2)) (d + m + 1) (i := (2 + (dep + 1))) (n := 1) hk6 hw1 hO (by omega) (fun t2 h2 => ⟨rfl, t2, h2, rfl⟩)) dX6_weighedBranches_118 wm_X6_170 ⟨wM_X5_passDays, wV_X5_passDays⟩ rfl (T_recv (by decide) hk6) rfl rfl (Nat.le_of_ble_eq_true rfl) rfl (fun r h1 hq1 => ?_)
        obtain ⟨rfl, t2, hw2, rfl⟩ := hq1
        refine J_lload (i := 7) (n := 123) dX6_weighedBranches_121 rfl rfl ?_
        refine J_bipush (n := 125) dX6_weighedBranches_123 kB_10 rfl ?_
        refine J_iload_n (i := 3) (n := 126) dX6_weighedBranches_125 rfl rfl rfl ?_
        refine J_isub (n := 127) dX6_weighedBranches_126 rfl ?_
        rw [pk_sub (by omega)]
        refine J_i2l (n := 128) dX6_weighedBranches_127 rfl ?_
        rw [nI_l (by omega)]
        refine J_aload_n (i := 0) (n := 129) dX6_weighedBranches_128 rfl rfl rfl ?_
        refine J_iload_n (i := 1) (n := 130) dX6_weighedBranches_129 rfl rfl rfl ?_
        refine J_iconst (n := 131) dX6_weighedBranches_130 kI_1 rfl ?_
        
        refine J_iadd (n := 132) dX6_weighedBranches_131 rfl ?_
        rw [nI_add]
        refine J_iload_n (i := 2) (n := 133) dX6_weighedBranches_132 rfl rfl rfl ?_
        refine J_iload_n (i := 3) (n := 134) dX6_weighedBranches_133 rfl rfl rfl ?_
        refine J_iload (i := 4) (n := 136) dX6_weighedBranches_134 rfl rfl ?_
        refine J_callSx (n := 139) wS_X6_weighedBranches (ih (Q := fun r h => r = some (.long (lN (wb (Tw o n0) v m (pw_days p 1)))) ∧ ∃ τ1, (∀ c i, ¬ (c = 5 ∧ 3 + (dep + 1) ≤ i ∧ i ≤ 10) → τ1 c i = gs_set τ 5 (2 + (dep + 1)) t2 c i) ∧ h = hp G τ1) d (dep + 1) (by omega) (by rw [gs_same]; exact hw2) (pw_days_ok hO 1) (by rw [pw_days_day]; omega) (by rw [gs_neI (by omega), hfr 5 2 (by omega)]; exact h0) (Nat.le_trans hn0 (pw_days_name h9 1).1) (fun τ1 hf => ⟨rfl, τ1, hf, rfl⟩)) dX6_weighedBranches_136 wm_X6_282 wT_X6_weighedBranches rfl rfl (Nat.le_of_ble_eq_true rfl) rfl (fun r h1 hq1 => ?_)
        obtain ⟨rfl, τ1, hf1, rfl⟩ := hq1
        refine J_lmul (n := 140) dX6_weighedBranches_139 rfl ?_
        rw [lN_mul]
        refine J_ladd (n := 141) dX6_weighedBranches_140 rfl ?_
        rw [lN_add]
        refine J_lstore (i := 7) (n := 143) (lv' := [(0, _), (1, _), (2, _), (3, _), (4, _), (5, _), (6, _), (7, _)]) dX6_weighedBranches_141 (by decide) rfl rfl ?_
        refine J_lload (i := 7) (n := 145) dX6_weighedBranches_143 rfl rfl ?_
        refine J_lret dX6_weighedBranches_145 rfl ?_
        first
        | (exact hq τ1 (fun c i hn => by rw [hf1 c i (fun q => hn ⟨q.1, by omega, q.2.2⟩), gs_ne (fun q => hn ⟨q.1, by omega, by omega⟩)]; exact hfr c i hn))
        | (rw [nI_leI (by omega) (by omega)] at c_105
           have ev : v = 10 := by omega
           have h1 := hq τ hfr
           have hs : wb (Tw o n0) v (m + 1) p = v * wb (Tw o n0) v m (pw_day p (p.2.2 8)) := by
             show v * wb (Tw o n0) v m (pw_day p (p.2.2 8)) + (10 - v) * wb (Tw o n0) v m (pw_days p 1) = _
             rw [show 10 - v = 0 by omega, Nat.zero_mul, Nat.add_zero]
           rw [hs] at h1
           exact h1)
    refine gx_K.of' (lv := [(0, _), (1, _), (2, _), (3, _), (4, _)]) (by decide) rfl (by decide) (Nat.le_of_ble_eq_true rfl) rfl ?_
    refine J_aload_n (i := 0) (n := 1) dX6_weighedBranches_0 rfl rfl rfl ?_
    refine J_iload_n (i := 1) (n := 2) dX6_weighedBranches_1 rfl rfl rfl ?_
    refine T_aald (k := 3) (t := 3) (N := 9) (n := 3) dX6_weighedBranches_2 (by decide) rfl rfl (vp_in_nI (by omega) (by decide)) rfl rfl ?_
    rw [nI_clamp (by omega)]
    refine J_astore (i := 5) (n := 5) (lv' := [(0, _), (1, _), (2, _), (3, _), (4, _), (5, _)]) dX6_weighedBranches_3 (by decide) rfl rfl ?_
    refine J_iload_n (i := 1) (n := 6) dX6_weighedBranches_5 rfl rfl rfl ?_
    refine J_iload_n (i := 2) (n := 7) dX6_weighedBranches_6 rfl rfl rfl ?_
    refine J_icmp_ge (tgt := 18) (n := 10) dX6_weighedBranches_7 (by decide) rfl (fun c_7 => ?_) (fun c_7 => ?_)
    · exfalso
      first
      | (rw [nI_leI (by omega) (by omega)] at c_7; omega)
      | (rw [show (9 : Int32) = nI 9 from rfl, nI_ltI (by omega) (by omega)] at c_15; omega)
    · rw [nI_leI (by omega) (by omega)] at c_7
      refine J_iload_n (i := 1) (n := 11) dX6_weighedBranches_10 rfl rfl rfl ?_
      refine J_iconst (n := 12) dX6_weighedBranches_11 kI_1 rfl ?_
      refine J_iadd (n := 13) dX6_weighedBranches_12 rfl ?_
      rw [nI_add]
      refine J_aload_n (i := 0) (n := 14) dX6_weighedBranches_13 rfl rfl rfl ?_
      refine T_alen (c := 6) (k := 3) (t := 3) (v := 9) (n := 15) dX6_weighedBranches_14 (by decide) (by decide) rfl rfl rfl rfl ?_
      refine J_icmp_lt (tgt := 52) (n := 18) dX6_weighedBranches_15 (by decide) rfl (fun c_15 => ?_) (fun c_15 => ?_)
      · refine J_aload_n (i := 0) (n := 53) dX6_weighedBranches_52 rfl rfl rfl ?_
        refine J_iload_n (i := 1) (n := 54) dX6_weighedBranches_53 rfl rfl rfl ?_
        refine J_iconst (n := 55) dX6_weighedBranches_54 kI_1 rfl ?_
        refine J_iadd (n := 56) dX6_weighedBranches_55 rfl ?_
        rw [nI_add]
        refine T_aald (k := 3) (t := 3) (N := 9) (n := 57) dX6_weighedBranches_56 (by decide) rfl rfl (vp_in_nI (by omega) (by decide)) rfl rfl ?_
        rw [nI_clamp (by omega)]
        refine J_astore (i := 6) (n := 59) (lv' := [(0, _), (1, _), (2, _), (3, _), (4, _), (5, _), (6, _)]) dX6_weighedBranches_57 (by decide) rfl rfl ?_
        refine J_lconst (n := 60) dX6_weighedBranches_59 kL_0 rfl ?_
        refine J_lstore (i := 7) (n := 62) (lv' := [(0, _), (1, _), (2, _), (3, _), (4, _), (5, _), (6, _), (7, _)]) dX6_weighedBranches_60 (by decide) rfl rfl ?_
        refine J_iload_n (i := 3) (n := 63) dX6_weighedBranches_62 rfl rfl rfl ?_
        refine J_if_le (tgt := 102) (n := 66) dX6_weighedBranches_63 (by decide) rfl (fun c_63 => ?_) (fun c_63 => ?_)
        · first
          | (refine k102 τ1 (fun c i hn => ?_)
             rw [hf1 c i (fun q => hn ⟨q.1, by omega, q.2.2⟩), gs_ne (fun q => hn ⟨q.1, by omega, by omega⟩)])
          | (rw [nI_le0 (by omega)] at c_63
             have h1 := k102 σ (fun _ _ _ => rfl)
             rw [show v * wb (Tw o n0) v m (pw_day p (p.2.2 8)) = 0 by rw [c_63, Nat.zero_mul]] at h1
             exact h1)
        · 
          refine J_aload (i := 6) (n := 68) dX6_weighedBranches_66 rfl rfl ?_
          refine J_aload (i := 5) (n := 70) dX6_weighedBranches_68 rfl rfl ?_
          refine J_callVx (n := 73) wS_X5_become (K_eta 5 (2 + (dep + 1)) (c_W_become (Q := fun r h => r = none ∧ ∃ t1, wR t1 p ∧ h = hp G (gs_set σ 5 (2 + (dep + 1)) t1)) (d + m + 5) (i := (2 + (dep + 1))) (j := 2 + dep) hk6 hk5 (by omega) hw hO (fun t1 h1 => ⟨rfl, t1, h1, rfl⟩))) dX6_weighedBranches_70 wm_X6_85 ⟨wM_X5_become, wV_X5_become⟩ rfl (T_recv (by decide) hk6) rfl rfl (Nat.le_of_ble_eq_true rfl) rfl (fun r h1 hq1 => ?_)
          obtain ⟨rfl, t1, hw1, rfl⟩ := hq1
          refine J_aload (i := 6) (n := 75) dX6_weighedBranches_73 rfl rfl ?_
          refine J_aload (i := 5) (n := 77) dX6_weighedBranches_75 rfl rfl ?_
          refine T_getO (k := 8) (n := 80) wk_X5 dX6_weighedBranches_77 wf_X6_105 (by decide) hk5 rfl rfl ?_
          rw [gs_neI (by omega), hw.2.2.2.2 8 (by decide) (by decide)]
          refine J_callVx (n := 83) wS_X5_passDay (c_W_passDay (Q := fun r h => r = none ∧ ∃ t2, wR t2 (pw_day p (p.2.2 8)) ∧ h = hp G (gs_set σ 5 (2 + (dep + 1)) t2)) (d + m + 2) (i := (2 + (dep + 1))) (e := p.2.2 8) hk6 hw1 hO hO.2.2.2.2.2.2.1 (fun t2 h2 => ⟨rfl, t2, h2, rfl⟩)) dX6_weighedBranches_80 wm_X6_216 ⟨wM_X5_passDay, wV_X5_passDay⟩ rfl (T_recv (by decide) hk6) rfl rfl (Nat.le_of_ble_eq_true rfl) rfl (fun r h1 hq1 => ?_)
          obtain ⟨rfl, t2, hw2, rfl⟩ := hq1
          refine J_lload (i := 7) (n := 85) dX6_weighedBranches_83 rfl rfl ?_
          refine J_iload_n (i := 3) (n := 86) dX6_weighedBranches_85 rfl rfl rfl ?_
          refine J_i2l (n := 87) dX6_weighedBranches_86 rfl ?_
          rw [nI_l (by omega)]
          refine J_aload_n (i := 0) (n := 88) dX6_weighedBranches_87 rfl rfl rfl ?_
          refine J_iload_n (i := 1) (n := 89) dX6_weighedBranches_88 rfl rfl rfl ?_
          refine J_iconst (n := 90) dX6_weighedBranches_89 kI_1 rfl ?_
          refine J_iadd (n := 91) dX6_weighedBranches_90 rfl ?_
          rw [nI_add]
          refine J_iload_n (i := 2) (n := 92) dX6_weighedBranches_91 rfl rfl rfl ?_
          refine J_iload_n (i := 3) (n := 93) dX6_weighedBranches_92 rfl rfl rfl ?_
          refine J_iload (i := 4) (n := 95) dX6_weighedBranches_93 rfl rfl ?_
          refine J_callSx (n := 98) wS_X6_weighedBranches (ih (Q := fun r h => r = some (.long (lN (wb (Tw o n0) v m (pw_day p (p.2.2 8))))) ∧ ∃ τ1, (∀ c i, ¬ (c = 5 ∧ 3 + (dep + 1) ≤ i ∧ i ≤ 10) → τ1 c i = gs_set σ 5 (2 + (dep + 1)) t2 c i) ∧ h = hp G τ1) d (dep + 1) (by omega) (by rw [gs_same]; exact hw2) (pw_day_ok hO hO.2.2.2.2.2.2.1) (by rw [pw_day_day]; omega) (by rw [gs_neI (by omega)]; exact h0) (Nat.le_trans hn0 (pw_day_name h9 _).1) (fun τ1 hf => ⟨rfl, τ1, hf, rfl⟩)) dX6_weighedBranches_95 wm_X6_282 wT_X6_weighedBranches rfl rfl (Nat.le_of_ble_eq_true rfl) rfl (fun r h1 hq1 => ?_)
          obtain ⟨rfl, τ1, hf1, rfl⟩ := hq1
          refine J_lmul (n := 99) dX6_weighedBranches_98 rfl ?_
          rw [lN_mul]
          refine J_ladd (n := 100) dX6_weighedBranches_99 rfl ?_
          rw [lN_add, Nat.zero_add]
          refine J_lstore (i := 7) (n := 102) (lv' := [(0, _), (1, _), (2, _), (3, _), (4, _), (5, _), (6, _), (7, _)]) dX6_weighedBranches_100 (by decide) rfl rfl ?_
          first
          | (refine k102 τ1 (fun c i hn => ?_)
             rw [hf1 c i (fun q => hn ⟨q.1, by omega, q.2.2⟩), gs_ne (fun q => hn ⟨q.1, by omega, by omega⟩)])
          | (rw [nI_le0 (by omega)] at c_63
             have h1 := k102 σ (fun _ _ _ => rfl)
             rw [show v * wb (Tw o n0) v m (pw_day p (p.2.2 8)) = 0 by rw [c_63, Nat.zero_mul]] at h1
             exact h1)
      · exfalso
        first
        | (rw [nI_leI (by omega) (by omega)] at c_7; omega)
        | (rw [show (9 : Int32) = nI 9 from rfl, nI_ltI (by omega) (by omega)] at c_15; omega)

set_option maxHeartbeats 4000000 in
set_option maxRecDepth 100000 in
theorem c_G_fraction {G : gx_G} {σ : gs_S} {Q : Option Value → gx_Hp → Prop} {p : pw} {o : Option Nat} {v n : Nat} (d : Nat) (w : Int32) (hw : wR (σ 5 0) p) (hO : pOk p) (hd9 : p.2.2 10 ≤ 999) (hv : v ≤ 10) (hn : n ≤ 8) (ho : ∀ j, o = some j → j < 4) (hq : ∀ τ, (∀ c i, ¬ isScr c i → τ c i = σ c i) → Q (some (.long (fr (wb (Tw o (p.2.2 9)) v n p) n w))) (hp G τ)) : gx_K G yX6_fractionByOdds mX6_fractionByOdds (d + 15) 0 0 [.ref (gs_a G 6 0 0), .int (nI v), .int (gC o), .int (nI n), .int w] (hp G σ) Q := by
  have h9 : p.2.2 9 ≤ 9999 := hO.2.2.2.2.2.2.2
  have hwl := wb_lt (o := o) (n0 := p.2.2 9) hv hn h9
  have hgp : 1 ≤ Nat.gcd (10 ^ n) (wb (Tw o (p.2.2 9)) v n p) := Nat.gcd_pos_of_pos_left _ (ten_le n hn).2
  have hgl : Nat.gcd (10 ^ n) (wb (Tw o (p.2.2 9)) v n p) ≤ 10 ^ n := Nat.gcd_le_left _ (ten_le n hn).2
  have hgn : ¬ lN (Nat.gcd (10 ^ n) (wb (Tw o (p.2.2 9)) v n p)) = 0 := by
    have h1 := (ten_le n hn).1
    intro q
    have := (lN_inj (b := 0) (by omega) (by decide)).mp q
    omega
  refine gx_K.of' (lv := [(0, _), (1, _), (2, _), (3, _), (4, _)]) (by decide) rfl (by decide) (Nat.le_of_ble_eq_true rfl) rfl ?_
  refine J_aload_n (i := 0) (n := 1) dX6_fractionByOdds_0 rfl rfl rfl ?_
  refine T_getO (k := 3) (n := 4) wk_X6 dX6_fractionByOdds_1 wf_X6_26 (by decide) (by decide) rfl rfl ?_
  refine J_iconst (n := 5) dX6_fractionByOdds_4 kI_0 rfl ?_
  refine T_aald (k := 3) (t := 3) (N := 9) (n := 6) dX6_fractionByOdds_5 (by decide) rfl rfl (vp_in_nI (by decide) (by decide)) rfl rfl ?_
  rw [nI_clamp (by decide)]
  refine J_aload_n (i := 0) (n := 7) dX6_fractionByOdds_6 rfl rfl rfl ?_
  refine T_getO (k := 0) (n := 10) wk_X6 dX6_fractionByOdds_7 wf_X6_10 (by decide) (by decide) rfl rfl ?_
  refine J_callVx (n := 13) wS_X5_become (K_eta 5 2 (c_W_become (Q := fun r h => r = none ∧ ∃ t1, wR t1 p ∧ h = hp G (gs_set σ 5 2 t1)) (d + 13) (i := 2) (j := 0) (by decide) (by decide) (by decide) hw hO (fun t1 h1 => ⟨rfl, t1, h1, rfl⟩))) dX6_fractionByOdds_10 wm_X6_85 ⟨wM_X5_become, wV_X5_become⟩ rfl (T_recv (by decide) (by decide)) rfl rfl (Nat.le_of_ble_eq_true rfl) rfl (fun r h1 hq1 => ?_)
  obtain ⟨rfl, t1, hw1, rfl⟩ := hq1
  have hwei : gx_K G yX6_weighedBranches mX6_weighedBranches (d + 14) 0 0 [.ref (gs_a G 6 0 4), .int (nI 0), .int (nI n), .int (nI v), .int (gC o)] (hp G (gs_set σ 5 2 t1)) (fun r h => r = some (.long (lN (wb (Tw o (p.2.2 9)) v n p))) ∧ ∃ τ, (∀ c i, ¬ (c = 5 ∧ 3 + 0 ≤ i ∧ i ≤ 10) → τ c i = gs_set σ 5 2 t1 c i) ∧ h = hp G τ) := by
    rw [show d + 14 = (d + 8 - n) + n + 6 by omega]
    exact c_G_weighed hv hn ho n (d + 8 - n) 0 (by omega) (show wR (gs_set σ 5 2 t1 5 2) p by rw [gs_same]; exact hw1) hO (by omega) (by rw [gs_same]; exact hw1.2.2.2.2 9 (by decide) (by decide)) (Nat.le_refl _) (fun τ hf => ⟨rfl, τ, hf, rfl⟩)
  refine J_aload_n (i := 0) (n := 14) dX6_fractionByOdds_13 rfl rfl rfl ?_
  refine T_getO (k := 3) (n := 17) wk_X6 dX6_fractionByOdds_14 wf_X6_26 (by decide) (by decide) rfl rfl ?_
  refine J_iconst (n := 18) dX6_fractionByOdds_17 kI_0 rfl ?_
  refine J_iload_n (i := 3) (n := 19) dX6_fractionByOdds_18 rfl rfl rfl ?_
  refine J_iload_n (i := 1) (n := 20) dX6_fractionByOdds_19 rfl rfl rfl ?_
  refine J_iload_n (i := 2) (n := 21) dX6_fractionByOdds_20 rfl rfl rfl ?_
  refine J_callSx (n := 24) wS_X6_weighedBranches (hwei) dX6_fractionByOdds_21 wm_X6_282 wT_X6_weighedBranches rfl rfl (Nat.le_of_ble_eq_true rfl) rfl (fun r h1 hq1 => ?_)
  obtain ⟨rfl, τ, hf, rfl⟩ := hq1
  have hq := hq τ (fun c i hn0 => by rw [hf c i (fun q => hn0 (Or.inl ⟨q.1, by omega, q.2.2⟩)), gs_ne (fun q => hn0 (Or.inl ⟨q.1, by omega, by omega⟩))])
  refine J_lstore (i := 5) (n := 26) (lv' := [(0, _), (1, _), (2, _), (3, _), (4, _), (5, _)]) dX6_fractionByOdds_24 (by decide) rfl rfl ?_
  refine J_lconst (n := 27) dX6_fractionByOdds_26 kL_1 rfl ?_
  refine J_lstore (i := 7) (n := 29) (lv' := [(0, _), (1, _), (2, _), (3, _), (4, _), (5, _), (7, _)]) dX6_fractionByOdds_27 (by decide) rfl rfl ?_
  refine J_iconst (n := 30) dX6_fractionByOdds_29 kI_0 rfl ?_
  refine J_istore (i := 9) (n := 32) (lv' := [(0, _), (1, _), (2, _), (3, _), (4, _), (5, _), (7, _), (9, _)]) dX6_fractionByOdds_30 (by decide) rfl rfl ?_
  have loop : ∀ u e, n - e < u → e ≤ n → gx_J G mX6_fractionByOdds (d + 15) 0 0 Q 32 [(0, .ref (gs_a G 6 0 0)), (1, .int (nI v)), (2, .int (gC o)), (3, .int (nI n)), (4, .int w), (5, .long (lN (wb (Tw o (p.2.2 9)) v n p))), (7, .long (lN (10 ^ e))), (9, .int (nI e))] [] (hp G τ) := by
    intro u
    induction u with
    | zero => intros; exact absurd (by assumption) (Nat.not_lt_zero _)
    | succ u ihu =>
      intro e hu he
      refine J_iload (i := 9) (n := 34) dX6_fractionByOdds_32 rfl rfl ?_
      refine J_iload_n (i := 3) (n := 35) dX6_fractionByOdds_34 rfl rfl rfl ?_
      refine J_icmp_ge (tgt := 52) (n := 38) dX6_fractionByOdds_35 (by decide) rfl (fun c_35 => ?_) (fun c_35 => ?_)
      · rw [nI_leI (by omega) (by omega)] at c_35
        have ee : e = n := by omega
        subst ee
        refine J_lload (i := 7) (n := 54) dX6_fractionByOdds_52 rfl rfl ?_
        refine J_lload (i := 5) (n := 56) dX6_fractionByOdds_54 rfl rfl ?_
        refine J_callSr (n := 59) wS_X6_commonDivisor (c_commonDivisor (d + 13) (a := 10 ^ e) (b := wb (Tw o (p.2.2 9)) v e p) (ten_le e (by omega)).2 (by have := (ten_le e (by omega)).1; omega) hwl ⟨rfl, rfl⟩) dX6_fractionByOdds_56 wm_X6_288 wT_X6_commonDivisor rfl rfl (Nat.le_of_ble_eq_true rfl) rfl ?_
        refine J_lstore (i := 9) (n := 61) (lv' := [(0, _), (1, _), (2, _), (3, _), (4, _), (5, _), (7, _), (9, _)]) dX6_fractionByOdds_59 (by decide) rfl rfl ?_
        refine J_iload (i := 4) (n := 63) dX6_fractionByOdds_61 rfl rfl ?_
        refine J_if_ne (tgt := 71) (n := 66) dX6_fractionByOdds_63 (by decide) rfl (fun c_63 => ?_) (fun c_63 => ?_)
        · refine J_lload (i := 7) (n := 73) dX6_fractionByOdds_71 rfl rfl ?_
          refine J_lload (i := 9) (n := 75) dX6_fractionByOdds_73 rfl rfl ?_
          refine J_ldiv (n := 76) dX6_fractionByOdds_75 hgn rfl ?_
          refine J_lret dX6_fractionByOdds_76 rfl ?_
          unfold fr at hq
          have h1 := (ten_le e (by omega)).1
          first
          | (rw [if_pos c_63] at hq
             rw [lN_div (by omega) (by omega)]
             exact hq)
          | (rw [if_neg c_63] at hq
             rw [lN_div (by omega) (by omega)]
             exact hq)
        · refine J_lload (i := 5) (n := 68) dX6_fractionByOdds_66 rfl rfl ?_
          refine J_goto (tgt := 73) dX6_fractionByOdds_68 (by decide) ?_
          refine J_lload (i := 9) (n := 75) dX6_fractionByOdds_73 rfl rfl ?_
          refine J_ldiv (n := 76) dX6_fractionByOdds_75 hgn rfl ?_
          refine J_lret dX6_fractionByOdds_76 rfl ?_
          unfold fr at hq
          have h1 := (ten_le e (by omega)).1
          first
          | (rw [if_pos c_63] at hq
             rw [lN_div (by omega) (by omega)]
             exact hq)
          | (rw [if_neg c_63] at hq
             rw [lN_div (by omega) (by omega)]
             exact hq)
      · rw [nI_leI (by omega) (by omega)] at c_35
        refine J_lload (i := 7) (n := 40) dX6_fractionByOdds_38 rfl rfl ?_
        refine J_ldc2 (n := 43) dX6_fractionByOdds_40 wd_X6_286 rfl ?_
        refine J_lmul (n := 44) dX6_fractionByOdds_43 rfl ?_
        rw [show (10 : Int64) = lN 10 from rfl, lN_mul]
        refine J_lstore (i := 7) (n := 46) (lv' := [(0, _), (1, _), (2, _), (3, _), (4, _), (5, _), (7, _), (9, _)]) dX6_fractionByOdds_44 (by decide) rfl rfl ?_
        refine J_inc (i := 9) (n := 49) (lv' := [(0, _), (1, _), (2, _), (3, _), (4, _), (5, _), (7, _), (9, _)]) dX6_fractionByOdds_46 rfl (by decide) rfl rfl ?_
        refine J_goto (tgt := 32) dX6_fractionByOdds_49 (by decide) ?_
        have h0 := ihu (e + 1) (by omega) (by omega)
        rw [Nat.pow_succ] at h0
        exact h0
  exact loop (n + 1) 0 (by omega) (by omega)

set_option maxHeartbeats 4000000 in
set_option maxRecDepth 100000 in
theorem c_G_luck {G : gx_G} {σ : gs_S} {Q : Option Value → gx_Hp → Prop} {S : pS} (d : Nat) (x g y w : Int32) (hS : SOk S) (hc : cR σ S) (hq : ∀ τ, cR τ S → τ 7 0 = σ 7 0 → Q (some (.long (sp_luck S x g y w))) (hp G τ)) : gx_K G yX6_luck mX6_luck (d + 16) 0 0 [.ref (gs_a G 6 0 0), .int x, .int g, .int y, .int w] (hp G σ) Q := by
  obtain ⟨hw, hs⟩ := hc.1
  have hO := hS.1.1
  have h4 : S.1.1.2.2 6 ≤ 4 := hO.2.2.2.2.1
  have h6 : S.1.1.2.2 7 ≤ 6 := hO.2.2.2.2.2.1
  have hm11 : S.1.1.2.2 8 ≤ 11 := hO.2.2.2.2.2.2.1
  have hn9 : S.1.1.2.2 9 ≤ 9999 := hO.2.2.2.2.2.2.2
  have hd9 : S.1.1.2.2 10 ≤ 999 := hS.1.2.2.1
  have e6 := hw.2.2.2.2 6 (by decide) (by decide)
  have e7 := hw.2.2.2.2 7 (by decide) (by decide)
  have e8 := hw.2.2.2.2 8 (by decide) (by decide)
  have e9 := hw.2.2.2.2 9 (by decide) (by decide)
  have e10 := hw.2.2.2.2 10 (by decide) (by decide)
  refine gx_K.of' (lv := [(0, _), (1, _), (2, _), (3, _), (4, _)]) (by decide) rfl (by decide) (Nat.le_of_ble_eq_true rfl) rfl ?_
  refine J_iload_n (i := 1) (n := 1) dX6_luck_0 rfl rfl rfl ?_
  refine J_bipush (n := 3) dX6_luck_1 kB_10 rfl ?_
  refine J_callSr (n := 6) wS_X6_isWithin (c_isWithin (d + 15) x 10 ⟨rfl, rfl⟩) dX6_luck_3 wm_X6_51 wT_X6_isWithin rfl rfl (Nat.le_of_ble_eq_true rfl) rfl ?_
  refine J_if_eq (tgt := 35) (n := 9) dX6_luck_6 (by decide) rfl (fun c_6 => ?_) (fun c_6 => ?_)
  · refine J_ldc2 (n := 38) dX6_luck_35 wd_X6_195 rfl ?_
    refine J_lret dX6_luck_38 rfl ?_
    unfold sp_luck at hq
    rw [if_neg (by
      first
      | (rw [nb_0] at c_6; rw [c_6, Bool.false_and]; decide)
      | (rw [nb_0] at c_14; rw [show isG S g = false from c_14, Bool.false_and, Bool.and_false]; decide)
      | (rw [nb_0] at c_23; rw [c_23, Bool.false_and, Bool.and_false, Bool.and_false]; decide)
      | (rw [nb_0] at c_32; rw [c_32, Bool.and_false, Bool.and_false, Bool.and_false]; decide))] at hq
    exact hq σ hc rfl
  · refine J_aload_n (i := 0) (n := 10) dX6_luck_9 rfl rfl rfl ?_
    refine J_iload_n (i := 2) (n := 11) dX6_luck_10 rfl rfl rfl ?_
    refine J_callVr (n := 14) wS_X6_isGlove (c_isGlove (d + 14) g hw hO ⟨rfl, rfl⟩) dX6_luck_11 wm_X6_121 ⟨wM_X6_isGlove, wV_X6_isGlove⟩ rfl (T_recv (by decide) (by decide)) rfl rfl (Nat.le_of_ble_eq_true rfl) rfl ?_
    refine J_if_eq (tgt := 35) (n := 17) dX6_luck_14 (by decide) rfl (fun c_14 => ?_) (fun c_14 => ?_)
    · refine J_ldc2 (n := 38) dX6_luck_35 wd_X6_195 rfl ?_
      refine J_lret dX6_luck_38 rfl ?_
      unfold sp_luck at hq
      rw [if_neg (by
        first
        | (rw [nb_0] at c_6; rw [c_6, Bool.false_and]; decide)
        | (rw [nb_0] at c_14; rw [show isG S g = false from c_14, Bool.false_and, Bool.and_false]; decide)
        | (rw [nb_0] at c_23; rw [c_23, Bool.false_and, Bool.and_false, Bool.and_false]; decide)
        | (rw [nb_0] at c_32; rw [c_32, Bool.and_false, Bool.and_false, Bool.and_false]; decide))] at hq
      exact hq σ hc rfl
    · refine J_iload_n (i := 3) (n := 18) dX6_luck_17 rfl rfl rfl ?_
      refine J_bipush (n := 20) dX6_luck_18 kB_8 rfl ?_
      refine J_callSr (n := 23) wS_X6_isWithin (c_isWithin (d + 15) y 8 ⟨rfl, rfl⟩) dX6_luck_20 wm_X6_51 wT_X6_isWithin rfl rfl (Nat.le_of_ble_eq_true rfl) rfl ?_
      refine J_if_eq (tgt := 35) (n := 26) dX6_luck_23 (by decide) rfl (fun c_23 => ?_) (fun c_23 => ?_)
      · refine J_ldc2 (n := 38) dX6_luck_35 wd_X6_195 rfl ?_
        refine J_lret dX6_luck_38 rfl ?_
        unfold sp_luck at hq
        rw [if_neg (by
          first
          | (rw [nb_0] at c_6; rw [c_6, Bool.false_and]; decide)
          | (rw [nb_0] at c_14; rw [show isG S g = false from c_14, Bool.false_and, Bool.and_false]; decide)
          | (rw [nb_0] at c_23; rw [c_23, Bool.false_and, Bool.and_false, Bool.and_false]; decide)
          | (rw [nb_0] at c_32; rw [c_32, Bool.and_false, Bool.and_false, Bool.and_false]; decide))] at hq
        exact hq σ hc rfl
      · refine J_iload (i := 4) (n := 28) dX6_luck_26 rfl rfl ?_
        refine J_iconst (n := 29) dX6_luck_28 kI_1 rfl ?_
        refine J_callSr (n := 32) wS_X6_isWithin (c_isWithin (d + 15) w 1 ⟨rfl, rfl⟩) dX6_luck_29 wm_X6_51 wT_X6_isWithin rfl rfl (Nat.le_of_ble_eq_true rfl) rfl ?_
        refine J_if_ne (tgt := 39) (n := 35) dX6_luck_32 (by decide) rfl (fun c_32 => ?_) (fun c_32 => ?_)
        · rw [nb_t] at c_6 c_14 c_23 c_32
          unfold sp_luck at hq
          rw [if_pos (by rw [c_6, show isG S g = true from c_14, c_23, c_32]; rfl)] at hq
          obtain ⟨v, hv10, rfl⟩ := ix_of c_6 (by decide)
          obtain ⟨j, hj, rfl⟩ := isG_of (S := S) c_14 hO
          obtain ⟨n, hn8, rfl⟩ := ix_of c_23 (by decide)
          rw [nat_nI (by omega), nat_nI (by omega), nat_nI (by omega)] at hq
          refine J_aload_n (i := 0) (n := 40) dX6_luck_39 rfl rfl rfl ?_
          refine J_iload_n (i := 1) (n := 41) dX6_luck_40 rfl rfl rfl ?_
          refine J_iload_n (i := 2) (n := 42) dX6_luck_41 rfl rfl rfl ?_
          refine J_iload_n (i := 3) (n := 43) dX6_luck_42 rfl rfl rfl ?_
          refine J_iload (i := 4) (n := 45) dX6_luck_43 rfl rfl ?_
          refine J_callVx (n := 48) wS_X6_fractionByOdds (c_G_fraction (Q := fun r h => r = some (.long (fr (wb (Tw (some j) (S.1.1.2.2 9)) v n S.1.1) n w)) ∧ ∃ τ, (∀ c i, ¬ isScr c i → τ c i = σ c i) ∧ h = hp G τ) (o := (some j)) d w hw hO hd9 hv10 hn8 (by first | (intro q hq0; cases hq0; omega) | (intro q hq0; cases hq0)) (fun τ hf => ⟨rfl, τ, hf, rfl⟩)) dX6_luck_45 wm_X6_197 ⟨wM_X6_fractionByOdds, wV_X6_fractionByOdds⟩ rfl (T_recv (by decide) (by decide)) rfl rfl (Nat.le_of_ble_eq_true rfl) rfl (fun r h1 hq1 => ?_)
          obtain ⟨rfl, τ, hf, rfl⟩ := hq1
          refine J_lret dX6_luck_48 rfl ?_
          exact hq τ (hc.scr hf) (hf 7 0 (by unfold isScr; omega))
        · refine J_ldc2 (n := 38) dX6_luck_35 wd_X6_195 rfl ?_
          refine J_lret dX6_luck_38 rfl ?_
          unfold sp_luck at hq
          rw [if_neg (by
            first
            | (rw [nb_0] at c_6; rw [c_6, Bool.false_and]; decide)
            | (rw [nb_0] at c_14; rw [show isG S g = false from c_14, Bool.false_and, Bool.and_false]; decide)
            | (rw [nb_0] at c_23; rw [c_23, Bool.false_and, Bool.and_false, Bool.and_false]; decide)
            | (rw [nb_0] at c_32; rw [c_32, Bool.and_false, Bool.and_false, Bool.and_false]; decide))] at hq
          exact hq σ hc rfl

set_option maxHeartbeats 4000000 in
set_option maxRecDepth 100000 in
theorem c_G_mean {G : gx_G} {σ : gs_S} {Q : Option Value → gx_Hp → Prop} {S : pS} (d : Nat) (x y w : Int32) (hS : SOk S) (hc : cR σ S) (hq : ∀ τ, cR τ S → τ 7 0 = σ 7 0 → Q (some (.long (sp_mean S x y w))) (hp G τ)) : gx_K G yX6_mean mX6_mean (d + 16) 0 0 [.ref (gs_a G 6 0 0), .int x, .int y, .int w] (hp G σ) Q := by
  obtain ⟨hw, hs⟩ := hc.1
  have hO := hS.1.1
  have h4 : S.1.1.2.2 6 ≤ 4 := hO.2.2.2.2.1
  have h6 : S.1.1.2.2 7 ≤ 6 := hO.2.2.2.2.2.1
  have hm11 : S.1.1.2.2 8 ≤ 11 := hO.2.2.2.2.2.2.1
  have hn9 : S.1.1.2.2 9 ≤ 9999 := hO.2.2.2.2.2.2.2
  have hd9 : S.1.1.2.2 10 ≤ 999 := hS.1.2.2.1
  have e6 := hw.2.2.2.2 6 (by decide) (by decide)
  have e7 := hw.2.2.2.2 7 (by decide) (by decide)
  have e8 := hw.2.2.2.2 8 (by decide) (by decide)
  have e9 := hw.2.2.2.2 9 (by decide) (by decide)
  have e10 := hw.2.2.2.2 10 (by decide) (by decide)
  refine gx_K.of' (lv := [(0, _), (1, _), (2, _), (3, _)]) (by decide) rfl (by decide) (Nat.le_of_ble_eq_true rfl) rfl ?_
  refine J_iload_n (i := 1) (n := 1) dX6_mean_0 rfl rfl rfl ?_
  refine J_bipush (n := 3) dX6_mean_1 kB_10 rfl ?_
  refine J_callSr (n := 6) wS_X6_isWithin (c_isWithin (d + 15) x 10 ⟨rfl, rfl⟩) dX6_mean_3 wm_X6_51 wT_X6_isWithin rfl rfl (Nat.le_of_ble_eq_true rfl) rfl ?_
  refine J_if_eq (tgt := 26) (n := 9) dX6_mean_6 (by decide) rfl (fun c_6 => ?_) (fun c_6 => ?_)
  · refine J_ldc2 (n := 29) dX6_mean_26 wd_X6_195 rfl ?_
    refine J_lret dX6_mean_29 rfl ?_
    unfold sp_mean at hq
    rw [if_neg (by
      first
      | (rw [nb_0] at c_6; rw [c_6, Bool.false_and]; decide)
      | (rw [nb_0] at c_15; rw [c_15, Bool.false_and, Bool.and_false]; decide)
      | (rw [nb_0] at c_23; rw [c_23, Bool.and_false, Bool.and_false]; decide))] at hq
    exact hq σ hc rfl
  · refine J_iload_n (i := 2) (n := 10) dX6_mean_9 rfl rfl rfl ?_
    refine J_bipush (n := 12) dX6_mean_10 kB_8 rfl ?_
    refine J_callSr (n := 15) wS_X6_isWithin (c_isWithin (d + 15) y 8 ⟨rfl, rfl⟩) dX6_mean_12 wm_X6_51 wT_X6_isWithin rfl rfl (Nat.le_of_ble_eq_true rfl) rfl ?_
    refine J_if_eq (tgt := 26) (n := 18) dX6_mean_15 (by decide) rfl (fun c_15 => ?_) (fun c_15 => ?_)
    · refine J_ldc2 (n := 29) dX6_mean_26 wd_X6_195 rfl ?_
      refine J_lret dX6_mean_29 rfl ?_
      unfold sp_mean at hq
      rw [if_neg (by
        first
        | (rw [nb_0] at c_6; rw [c_6, Bool.false_and]; decide)
        | (rw [nb_0] at c_15; rw [c_15, Bool.false_and, Bool.and_false]; decide)
        | (rw [nb_0] at c_23; rw [c_23, Bool.and_false, Bool.and_false]; decide))] at hq
      exact hq σ hc rfl
    · refine J_iload_n (i := 3) (n := 19) dX6_mean_18 rfl rfl rfl ?_
      refine J_iconst (n := 20) dX6_mean_19 kI_1 rfl ?_
      refine J_callSr (n := 23) wS_X6_isWithin (c_isWithin (d + 15) w 1 ⟨rfl, rfl⟩) dX6_mean_20 wm_X6_51 wT_X6_isWithin rfl rfl (Nat.le_of_ble_eq_true rfl) rfl ?_
      refine J_if_ne (tgt := 30) (n := 26) dX6_mean_23 (by decide) rfl (fun c_23 => ?_) (fun c_23 => ?_)
      · rw [nb_t] at c_6 c_15 c_23
        unfold sp_mean at hq
        rw [if_pos (by rw [c_6, c_15, c_23]; rfl)] at hq
        obtain ⟨v, hv10, rfl⟩ := ix_of c_6 (by decide)
        obtain ⟨n, hn8, rfl⟩ := ix_of c_15 (by decide)
        rw [nat_nI (by omega), nat_nI (by omega)] at hq
        refine J_aload_n (i := 0) (n := 31) dX6_mean_30 rfl rfl rfl ?_
        refine J_iload_n (i := 1) (n := 32) dX6_mean_31 rfl rfl rfl ?_
        refine J_iconst (n := 33) dX6_mean_32 kI_m1 rfl ?_
        refine J_iload_n (i := 2) (n := 34) dX6_mean_33 rfl rfl rfl ?_
        refine J_iload_n (i := 3) (n := 35) dX6_mean_34 rfl rfl rfl ?_
        refine J_callVx (n := 38) wS_X6_fractionByOdds (c_G_fraction (Q := fun r h => r = some (.long (fr (wb (Tw none (S.1.1.2.2 9)) v n S.1.1) n w)) ∧ ∃ τ, (∀ c i, ¬ isScr c i → τ c i = σ c i) ∧ h = hp G τ) (o := none) d w hw hO hd9 hv10 hn8 (by first | (intro q hq0; cases hq0; omega) | (intro q hq0; cases hq0)) (fun τ hf => ⟨rfl, τ, hf, rfl⟩)) dX6_mean_35 wm_X6_197 ⟨wM_X6_fractionByOdds, wV_X6_fractionByOdds⟩ rfl (T_recv (by decide) (by decide)) rfl rfl (Nat.le_of_ble_eq_true rfl) rfl (fun r h1 hq1 => ?_)
        obtain ⟨rfl, τ, hf, rfl⟩ := hq1
        refine J_lret dX6_mean_38 rfl ?_
        exact hq τ (hc.scr hf) (hf 7 0 (by unfold isScr; omega))
      · refine J_ldc2 (n := 29) dX6_mean_26 wd_X6_195 rfl ?_
        refine J_lret dX6_mean_29 rfl ?_
        unfold sp_mean at hq
        rw [if_neg (by
          first
          | (rw [nb_0] at c_6; rw [c_6, Bool.false_and]; decide)
          | (rw [nb_0] at c_15; rw [c_15, Bool.false_and, Bool.and_false]; decide)
          | (rw [nb_0] at c_23; rw [c_23, Bool.and_false, Bool.and_false]; decide))] at hq
        exact hq σ hc rfl

