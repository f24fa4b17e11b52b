theorem mQ.rf (v : gs_Ob) : mQ v v := ⟨fun _ _ => rfl, fun _ _ => rfl⟩
theorem mQ.tr {u v w : gs_Ob} (h : mQ u v) (h2 : mQ v w) : mQ u w := ⟨fun k hk => (h2.1 k hk).trans (h.1 k hk), fun k hk => (h2.2 k hk).trans (h.2 k hk)⟩
theorem mQ.w1 (v : gs_Ob) (f : Nat → Int32) : mQ v (gs_w v 1 f) := ⟨fun k hk => by simp only [gs_w, va_up]; rw [if_neg (by omega)], fun _ _ => rfl⟩
theorem mQ.f (v : gs_Ob) (k : Nat) (x : Int32) (hk : k = 18 ∨ k = 19) : mQ v (gs_f v k x) := ⟨fun _ _ => rfl, fun q hq => by simp only [gs_f]; exact pk_un (by omega)⟩
def mc (r : Option (Nat × Nat)) : Int32 := match r with
  | none => -4
  | some x => nI x.1
def mm (r : Option (Nat × Nat)) : Int32 := match r with
  | none => -1
  | some x => nI x.2
def mJq (v : gs_Ob) (r : Option (Nat × Nat)) : Prop := v.2.1 18 = mc r ∧ v.2.1 19 = mm r
def mJd (v : gs_Ob) (r : Option Nat × Nat) : Prop := v.2.1 18 = cd r.1 ∧ v.2.1 19 = nI r.2
def mjf (v : gs_Ob) (c x : Int32) : gs_Ob := gs_f (gs_f v 18 (if v.2.1 19 < x then c else v.2.1 18)) 19 (if v.2.1 19 < x then x else v.2.1 19)
theorem mQ.j (v : gs_Ob) (c x : Int32) : mQ v (mjf v c x) := (mQ.f v 18 _ (Or.inl rfl)).tr (mQ.f _ 19 _ (Or.inr rfl))
theorem mjf_18 (v : gs_Ob) (c x : Int32) : (mjf v c x).2.1 18 = if v.2.1 19 < x then c else v.2.1 18 := by
  simp [mjf, gs_f, upd]
theorem mjf_19 (v : gs_Ob) (c x : Int32) : (mjf v c x).2.1 19 = if v.2.1 19 < x then x else v.2.1 19 := by
  simp [mjf, gs_f, upd]
theorem mJq.j {v : gs_Ob} {r : Option (Nat × Nat)} (h : mJq v r) {c m : Nat} (hm : m < 2 ^ 31) (hr : ∀ x, r = some x → x.2 < 2 ^ 31) : mJq (mjf v (nI c) (nI m)) (jq r c m) := by
  unfold mJq
  rw [mjf_18, mjf_19, h.1, h.2]
  cases r with
  | none =>
    have e : (-1 : Int32) < nI m := Int32.lt_of_lt_of_le (by decide +kernel) (nI_pos' hm)
    rw [show mm none = -1 from rfl, if_pos e, if_pos e]
    exact ⟨rfl, rfl⟩
  | some x =>
    show (if nI x.2 < nI m then nI c else nI x.1) = mc (if x.2 < m then some (c, m) else some x) ∧ (if nI x.2 < nI m then nI m else nI x.2) = mm (if x.2 < m then some (c, m) else some x)
    by_cases h1 : x.2 < m
    · rw [if_pos (nI_lt h1 hm), if_pos (nI_lt h1 hm), if_pos h1]; exact ⟨rfl, rfl⟩
    · rw [if_neg (nI_nlt (by omega) (hr x rfl)), if_neg (nI_nlt (by omega) (hr x rfl)), if_neg h1]; exact ⟨rfl, rfl⟩
theorem mJd.j {v : gs_Ob} {r : Option Nat × Nat} (h : mJd v r) {c m : Nat} (hm : m < 2 ^ 31) (hr : r.2 < 2 ^ 31) : mJd (mjf v (nI c) (nI m)) (jd r c m) := by
  unfold mJd
  rw [mjf_18, mjf_19, h.1, h.2]
  unfold jd
  by_cases h1 : r.2 < m
  · rw [if_pos (nI_lt h1 hm), if_pos (nI_lt h1 hm), if_pos h1]; exact ⟨rfl, rfl⟩
  · rw [if_neg (nI_nlt (by omega) hr), if_neg (nI_nlt (by omega) hr), if_neg h1]; exact ⟨rfl, rfl⟩
theorem mJq.aq {v : gs_Ob} {r : Option (Nat × Nat)} (h : mJq v r) (w : Int32) (hr : ∀ x, r = some x → x.1 < 2 ^ 31) : (if v.2.1 18 = -4 then -4 else if w = 0 then v.2.1 18 else v.2.1 19) = aq r w := by
  rw [h.1, h.2]
  cases r with
  | none => rfl
  | some x => rw [show mc (some x) = nI x.1 from rfl, if_neg (cd_ne (hr x rfl))]; rfl
theorem mJd.ad {v : gs_Ob} {r : Option Nat × Nat} (h : mJd v r) (w : Int32) (hr : ∀ c, r.1 = some c → c < 2 ^ 31) : (if v.2.1 18 = -4 then -4 else if w = 0 then v.2.1 18 else v.2.1 19) = ad r w := by
  rw [h.1, h.2]
  obtain ⟨a, b⟩ := r
  cases a with
  | none => rfl
  | some c => rw [show cd (some c) = nI c from rfl, if_neg (cd_ne (hr c rfl))]; rfl
theorem jqs_code (f : Nat → Nat) (n : Nat) : ∀ x, jqs f n = some x → x.1 < n := by
  induction n with
  | zero => intro x h; cases h
  | succ n ih =>
    intro x h
    have h : jq (jqs f n) n (f n) = some x := h
    cases hr : jqs f n with
    | none => rw [hr] at h; cases h; exact Nat.lt_succ_self _
    | some y0 =>
      rw [hr] at h
      have h : (if y0.2 < f n then some (n, f n) else some y0) = some x := h
      split at h
      · cases h; exact Nat.lt_succ_self _
      · cases h; have := ih _ hr; omega
theorem pw_f_id (p : pw) (k : Nat) : pw_f p k (p.2.2 k) = p := by
  refine Prod.ext rfl (Prod.ext rfl (funext fun q => ?_))
  show (if q = k then p.2.2 k else p.2.2 q) = p.2.2 q
  split
  · next e => rw [e]
  · rfl
set_option maxHeartbeats 4000000 in
set_option maxRecDepth 100000 in
theorem c_M_startsJudging {G : gx_G} {σ : gs_S} {Q : Option Value → gx_Hp → Prop} {v : gs_Ob} (d : Nat) (x : Int32) (hq : Q none (hp G (gs_set σ 7 0 (gs_f (gs_f v 18 (-4)) 19 x)))) : gx_K G yX7_startsJudging mX7_startsJudging d 0 0 [.ref (gs_a G 7 0 0), .int x] (hp G (gs_set σ 7 0 v)) Q := by
  refine gx_K.of' (lv := [(0, _), (1, _)]) (by decide) rfl (by decide) (Nat.le_of_ble_eq_true rfl) rfl ?_
  refine J_aload_n (i := 0) (n := 1) dX7_startsJudging_0 rfl rfl rfl ?_
  refine J_bipush (n := 3) dX7_startsJudging_1 kB_m4 rfl ?_
  refine T_putI (k := 18) (n := 6) wk_X7 dX7_startsJudging_3 wf_X7_249 (by decide) (by first | assumption | decide) (kN_i _) rfl (Nat.le_of_ble_eq_true rfl) rfl rfl ?_
  refine J_aload_n (i := 0) (n := 7) dX7_startsJudging_6 rfl rfl rfl ?_
  refine J_iload_n (i := 1) (n := 8) dX7_startsJudging_7 rfl rfl rfl ?_
  refine T_putI (k := 19) (n := 11) wk_X7 dX7_startsJudging_8 wf_X7_252 (by decide) (by first | assumption | decide) (kN_i _) rfl (Nat.le_of_ble_eq_true rfl) rfl rfl ?_
  refine J_vret dX7_startsJudging_11 rfl ?_
  exact hq

set_option maxHeartbeats 4000000 in
set_option maxRecDepth 100000 in
theorem c_M_judges {G : gx_G} {σ : gs_S} {Q : Option Value → gx_Hp → Prop} {v : gs_Ob} (d : Nat) (c x : Int32) (hq : Q none (hp G (gs_set σ 7 0 (mjf v c x)))) : gx_K G yX7_judges mX7_judges d 0 0 [.ref (gs_a G 7 0 0), .int c, .int x] (hp G (gs_set σ 7 0 v)) Q := by
  unfold mjf at hq
  refine gx_K.of' (lv := [(0, _), (1, _), (2, _)]) (by decide) rfl (by decide) (Nat.le_of_ble_eq_true rfl) rfl ?_
  refine J_aload_n (i := 0) (n := 1) dX7_judges_0 rfl rfl rfl ?_
  refine J_iload_n (i := 2) (n := 2) dX7_judges_1 rfl rfl rfl ?_
  refine J_aload_n (i := 0) (n := 3) dX7_judges_2 rfl rfl rfl ?_
  refine T_get (k := 19) (n := 6) wk_X7 dX7_judges_3 wf_X7_252 (by decide) (by first | assumption | decide) rfl rfl ?_
  refine J_icmp_le (tgt := 13) (n := 9) dX7_judges_6 (by decide) rfl (fun c_6 => ?_) (fun c_6 => ?_)
  · refine J_aload_n (i := 0) (n := 14) dX7_judges_13 rfl rfl rfl ?_
    refine T_get (k := 18) (n := 17) wk_X7 dX7_judges_14 wf_X7_249 (by decide) (by first | assumption | decide) rfl rfl ?_
    refine T_putI (k := 18) (n := 20) wk_X7 dX7_judges_17 wf_X7_249 (by decide) (by first | assumption | decide) (kN_i _) rfl (Nat.le_of_ble_eq_true rfl) rfl rfl ?_
    refine J_aload_n (i := 0) (n := 21) dX7_judges_20 rfl rfl rfl ?_
    refine J_iload_n (i := 2) (n := 22) dX7_judges_21 rfl rfl rfl ?_
    refine J_aload_n (i := 0) (n := 23) dX7_judges_22 rfl rfl rfl ?_
    refine T_get (k := 19) (n := 26) wk_X7 dX7_judges_23 wf_X7_252 (by decide) (by first | assumption | decide) rfl rfl ?_
    refine J_icmp_le (tgt := 33) (n := 29) dX7_judges_26 (by decide) rfl (fun c_26 => ?_) (fun c_26 => ?_)
    · refine J_aload_n (i := 0) (n := 34) dX7_judges_33 rfl rfl rfl ?_
      refine T_get (k := 19) (n := 37) wk_X7 dX7_judges_34 wf_X7_252 (by decide) (by first | assumption | decide) rfl rfl ?_
      refine T_putI (k := 19) (n := 40) wk_X7 dX7_judges_37 wf_X7_252 (by decide) (by first | assumption | decide) (kN_i _) rfl (Nat.le_of_ble_eq_true rfl) rfl rfl ?_
      refine J_vret dX7_judges_40 rfl ?_
      have k26 : ∀ z, (gs_f v 18 z).2.1 19 = v.2.1 19 := fun z => by simp [gs_f, upd]
      rw [k26] at c_26
      first
      | (rw [if_neg (Int32.not_lt.mpr c_6), if_neg (Int32.not_lt.mpr c_6)] at hq; rw [k26]; exact hq)
      | (rw [if_pos (Int32.not_le.mp c_6), if_pos (Int32.not_le.mp c_6)] at hq; exact hq)
      | exact absurd c_26 c_6
      | exact absurd c_6 c_26
    · refine J_iload_n (i := 2) (n := 30) dX7_judges_29 rfl rfl rfl ?_
      refine J_goto (tgt := 37) dX7_judges_30 (by decide) ?_
      refine T_putI (k := 19) (n := 40) wk_X7 dX7_judges_37 wf_X7_252 (by decide) (by first | assumption | decide) (kN_i _) rfl (Nat.le_of_ble_eq_true rfl) rfl rfl ?_
      refine J_vret dX7_judges_40 rfl ?_
      have k26 : ∀ z, (gs_f v 18 z).2.1 19 = v.2.1 19 := fun z => by simp [gs_f, upd]
      rw [k26] at c_26
      first
      | (rw [if_neg (Int32.not_lt.mpr c_6), if_neg (Int32.not_lt.mpr c_6)] at hq; rw [k26]; exact hq)
      | (rw [if_pos (Int32.not_le.mp c_6), if_pos (Int32.not_le.mp c_6)] at hq; exact hq)
      | exact absurd c_26 c_6
      | exact absurd c_6 c_26
  · refine J_iload_n (i := 1) (n := 10) dX7_judges_9 rfl rfl rfl ?_
    refine J_goto (tgt := 17) dX7_judges_10 (by decide) ?_
    refine T_putI (k := 18) (n := 20) wk_X7 dX7_judges_17 wf_X7_249 (by decide) (by first | assumption | decide) (kN_i _) rfl (Nat.le_of_ble_eq_true rfl) rfl rfl ?_
    refine J_aload_n (i := 0) (n := 21) dX7_judges_20 rfl rfl rfl ?_
    refine J_iload_n (i := 2) (n := 22) dX7_judges_21 rfl rfl rfl ?_
    refine J_aload_n (i := 0) (n := 23) dX7_judges_22 rfl rfl rfl ?_
    refine T_get (k := 19) (n := 26) wk_X7 dX7_judges_23 wf_X7_252 (by decide) (by first | assumption | decide) rfl rfl ?_
    refine J_icmp_le (tgt := 33) (n := 29) dX7_judges_26 (by decide) rfl (fun c_26 => ?_) (fun c_26 => ?_)
    · refine J_aload_n (i := 0) (n := 34) dX7_judges_33 rfl rfl rfl ?_
      refine T_get (k := 19) (n := 37) wk_X7 dX7_judges_34 wf_X7_252 (by decide) (by first | assumption | decide) rfl rfl ?_
      refine T_putI (k := 19) (n := 40) wk_X7 dX7_judges_37 wf_X7_252 (by decide) (by first | assumption | decide) (kN_i _) rfl (Nat.le_of_ble_eq_true rfl) rfl rfl ?_
      refine J_vret dX7_judges_40 rfl ?_
      have k26 : ∀ z, (gs_f v 18 z).2.1 19 = v.2.1 19 := fun z => by simp [gs_f, upd]
      rw [k26] at c_26
      first
      | (rw [if_neg (Int32.not_lt.mpr c_6), if_neg (Int32.not_lt.mpr c_6)] at hq; rw [k26]; exact hq)
      | (rw [if_pos (Int32.not_le.mp c_6), if_pos (Int32.not_le.mp c_6)] at hq; exact hq)
      | exact absurd c_26 c_6
      | exact absurd c_6 c_26
    · refine J_iload_n (i := 2) (n := 30) dX7_judges_29 rfl rfl rfl ?_
      refine J_goto (tgt := 37) dX7_judges_30 (by decide) ?_
      refine T_putI (k := 19) (n := 40) wk_X7 dX7_judges_37 wf_X7_252 (by decide) (by first | assumption | decide) (kN_i _) rfl (Nat.le_of_ble_eq_true rfl) rfl rfl ?_
      refine J_vret dX7_judges_40 rfl ?_
      have k26 : ∀ z, (gs_f v 18 z).2.1 19 = v.2.1 19 := fun z => by simp [gs_f, upd]
      rw [k26] at c_26
      first
      | (rw [if_neg (Int32.not_lt.mpr c_6), if_neg (Int32.not_lt.mpr c_6)] at hq; rw [k26]; exact hq)
      | (rw [if_pos (Int32.not_le.mp c_6), if_pos (Int32.not_le.mp c_6)] at hq; exact hq)
      | exact absurd c_26 c_6
      | exact absurd c_6 c_26

set_option maxHeartbeats 4000000 in
set_option maxRecDepth 100000 in
theorem c_M_judged {G : gx_G} {σ : gs_S} {Q : Option Value → gx_Hp → Prop} {v : gs_Ob} (d : Nat) (w : Int32) (hq : Q (some (.int (if v.2.1 18 = -4 then -4 else if w = 0 then v.2.1 18 else v.2.1 19))) (hp G (gs_set σ 7 0 v))) : gx_K G yX7_judged mX7_judged d 0 0 [.ref (gs_a G 7 0 0), .int w] (hp G (gs_set σ 7 0 v)) Q := by
  refine gx_K.of' (lv := [(0, _), (1, _)]) (by decide) rfl (by decide) (Nat.le_of_ble_eq_true rfl) rfl ?_
  refine J_aload_n (i := 0) (n := 1) dX7_judged_0 rfl rfl rfl ?_
  refine T_get (k := 18) (n := 4) wk_X7 dX7_judged_1 wf_X7_249 (by decide) (by first | assumption | decide) rfl rfl ?_
  refine J_bipush (n := 6) dX7_judged_4 kB_m4 rfl ?_
  refine J_icmp_ne (tgt := 14) (n := 9) dX7_judged_6 (by decide) rfl (fun c_6 => ?_) (fun c_6 => ?_)
  · refine J_iload_n (i := 1) (n := 15) dX7_judged_14 rfl rfl rfl ?_
    refine J_if_ne (tgt := 25) (n := 18) dX7_judged_15 (by decide) rfl (fun c_15 => ?_) (fun c_15 => ?_)
    · refine J_aload_n (i := 0) (n := 26) dX7_judged_25 rfl rfl rfl ?_
      refine T_get (k := 19) (n := 29) wk_X7 dX7_judged_26 wf_X7_252 (by decide) (by first | assumption | decide) rfl rfl ?_
      refine J_iret dX7_judged_29 rfl (kN_i _) ?_
      first
      | (rw [if_pos c_6] at hq; exact hq)
      | (rw [if_neg c_6, if_pos c_15] at hq; exact hq)
      | (rw [if_neg c_6, if_neg c_15] at hq; exact hq)
    · refine J_aload_n (i := 0) (n := 19) dX7_judged_18 rfl rfl rfl ?_
      refine T_get (k := 18) (n := 22) wk_X7 dX7_judged_19 wf_X7_249 (by decide) (by first | assumption | decide) rfl rfl ?_
      refine J_goto (tgt := 29) dX7_judged_22 (by decide) ?_
      refine J_iret dX7_judged_29 rfl (kN_i _) ?_
      first
      | (rw [if_pos c_6] at hq; exact hq)
      | (rw [if_neg c_6, if_pos c_15] at hq; exact hq)
      | (rw [if_neg c_6, if_neg c_15] at hq; exact hq)
  · refine J_bipush (n := 11) dX7_judged_9 kB_m4 rfl ?_
    refine J_goto (tgt := 29) dX7_judged_11 (by decide) ?_
    refine J_iret dX7_judged_29 rfl (kN_i _) ?_
    first
    | (rw [if_pos c_6] at hq; exact hq)
    | (rw [if_neg c_6, if_pos c_15] at hq; exact hq)
    | (rw [if_neg c_6, if_neg c_15] at hq; exact hq)

set_option maxHeartbeats 4000000 in
set_option maxRecDepth 100000 in
theorem c_N_place {G : gx_G} {σ : gs_S} {Q : Option Value → gx_Hp → Prop} {S : pS} {v : gs_Ob} (d : Nat) (g x w : Int32) (hS : SOk S) (hm : mR v S) (hq : ∀ v1, mR v1 S → Q (some (.int (sp_place S g x w))) (hp G (gs_set σ 7 0 v1))) : gx_K G yX7_place mX7_place (d + 12) 0 0 [.ref (gs_a G 7 0 0), .int g, .int x, .int w] (hp G (gs_set σ 7 0 v)) Q := by
  obtain ⟨⟨ha, hsn, hgl⟩, hkm, htp, hft, hsh⟩ := id hm
  have hO := hS.1.1
  have hB := hO.aB
  have h4 : S.1.1.2.2 6 ≤ 4 := hO.2.2.2.2.1
  have h6 : S.1.1.2.2 7 ≤ 6 := hO.2.2.2.2.2.1
  have hm11 : S.1.1.2.2 8 ≤ 11 := hO.2.2.2.2.2.2.1
  have hn9 : S.1.1.2.2 9 ≤ 9999 := hO.2.2.2.2.2.2.2
  have hd9 : S.1.1.2.2 10 ≤ 999 := hS.1.2.2.1
  have h160 : S.2.2.2.1.2 ≤ 160 := hS.2.2.1.1
  have e28 := ha.2.2.2.1
  have e29 := ha.2.2.2.2.1
  have e36 := ha.2.2.2.2.2.1
  have e37 := ha.2.2.2.2.2.2
  have g0 : gs_set σ 7 0 v 7 0 = v := gs_same _ _ _ _
  have hgl0 : (gs_set σ 7 0 v 7 0).2.1 3 = nI (S.1.1.2.2 6) := by rw [g0]; exact hgl
  have ha0 : aR ((gs_set σ 7 0 v 7 0).1 0) S.1.1 := by rw [g0]; exact ha
  refine gx_K.of' (lv := [(0, _), (1, _), (2, _), (3, _)]) (by decide) rfl (by decide) (Nat.le_of_ble_eq_true rfl) rfl ?_
  refine J_aload_n (i := 0) (n := 1) dX7_place_0 rfl rfl rfl ?_
  refine J_iload_n (i := 1) (n := 2) dX7_place_1 rfl rfl rfl ?_
  refine J_callVr (n := 5) wS_X7_isCall (c_M_isCall (d + 10) g (S.1.1.2.2 7) ha0.2.2.2.2.1 (by omega) ⟨rfl, rfl⟩) dX7_place_2 wm_X7_219 ⟨wM_X7_isCall, wV_X7_isCall⟩ rfl (T_recv (by decide) (by first | assumption | decide)) rfl rfl (Nat.le_of_ble_eq_true rfl) rfl ?_
  refine J_if_eq (tgt := 22) (n := 8) dX7_place_5 (by decide) rfl (fun c_5 => ?_) (fun c_5 => ?_)
  · refine J_iconst (n := 23) dX7_place_22 kI_m1 rfl ?_
    refine J_iret dX7_place_23 rfl (kN_i _) ?_
    unfold sp_place at hq
    rw [if_neg (by
      first
      | (rw [nb_0] at c_5; rw [show isC S g = false from c_5, Bool.false_and]; decide)
      | (rw [nb_0] at c_12; rw [c_12, Bool.false_and, Bool.and_false]; decide)
      | (rw [nb_0] at c_19; rw [c_19, Bool.and_false, Bool.and_false]; decide))] at hq
    exact hq v hm
  · refine J_iload_n (i := 2) (n := 9) dX7_place_8 rfl rfl rfl ?_
    refine J_callSr (n := 12) wS_X7_isFar (c_M_isFar (d + 10) x ⟨rfl, rfl⟩) dX7_place_9 wm_X7_244 wT_X7_isFar rfl rfl (Nat.le_of_ble_eq_true rfl) rfl ?_
    refine J_if_eq (tgt := 22) (n := 15) dX7_place_12 (by decide) rfl (fun c_12 => ?_) (fun c_12 => ?_)
    · refine J_iconst (n := 23) dX7_place_22 kI_m1 rfl ?_
      refine J_iret dX7_place_23 rfl (kN_i _) ?_
      unfold sp_place at hq
      rw [if_neg (by
        first
        | (rw [nb_0] at c_5; rw [show isC S g = false from c_5, Bool.false_and]; decide)
        | (rw [nb_0] at c_12; rw [c_12, Bool.false_and, Bool.and_false]; decide)
        | (rw [nb_0] at c_19; rw [c_19, Bool.and_false, Bool.and_false]; decide))] at hq
      exact hq v hm
    · refine J_iload_n (i := 3) (n := 16) dX7_place_15 rfl rfl rfl ?_
      refine J_callSr (n := 19) wS_X7_isPart (c_M_isPart (d + 10) w ⟨rfl, rfl⟩) dX7_place_16 wm_X7_216 wT_X7_isPart rfl rfl (Nat.le_of_ble_eq_true rfl) rfl ?_
      refine J_if_ne (tgt := 24) (n := 22) dX7_place_19 (by decide) rfl (fun c_19 => ?_) (fun c_19 => ?_)
      · rw [nb_t] at c_5 c_12 c_19
        unfold sp_place at hq
        rw [if_pos (by rw [show isC S g = true from c_5, c_12, c_19]; rfl)] at hq
        obtain ⟨j, hj, rfl⟩ := isC_of (S := S) c_5 hO
        obtain ⟨n, hn60, rfl⟩ := ix_of c_12 (by decide)
        rw [nat_nI (by omega), nat_nI (by omega)] at hq
        refine J_aload_n (i := 0) (n := 25) dX7_place_24 rfl rfl rfl ?_
        refine J_iconst (n := 26) dX7_place_25 kI_m1 rfl ?_
        refine J_callVv (n := 29) wS_X7_startsJudging (c_M_startsJudging (d + 11) _ ⟨rfl, rfl⟩) dX7_place_26 wm_X7_255 ⟨wM_X7_startsJudging, wV_X7_startsJudging⟩ rfl (T_recv (by decide) (by first | assumption | decide)) rfl rfl (Nat.le_of_ble_eq_true rfl) rfl ?_
        refine J_iconst (n := 30) dX7_place_29 kI_0 rfl ?_
        refine J_istore (i := 4) (n := 32) (lv' := [(0, _), (1, _), (2, _), (3, _), (4, _)]) dX7_place_30 (by decide) rfl rfl ?_
        have hfl : ∀ e, (fun e => pw_count (pw_days (pw_ex S.1.1 j e) n).2.1) e < 5 := fun e => pw_count_le _
        have loop : ∀ u e v1, 12 - e < u → e ≤ 12 → mR v1 S → mJq v1 (jqs (fun e => pw_count (pw_days (pw_ex S.1.1 j e) n).2.1) e) → gx_J G mX7_place (d + 12) 0 0 Q 32 [(0, .ref (gs_a G 7 0 0)), (1, .int (nI j)), (2, .int (nI n)), (3, .int w), (4, .int (nI e))] [] (hp G (gs_set σ 7 0 v1)) := by
          intro u
          induction u with
          | zero => intros; exact absurd (by assumption) (Nat.not_lt_zero _)
          | succ u ih =>
            intro e v1 hu he hm1 hJ1
            have hjl := jqs_lt hfl e
            have hfe := hfl e
            refine J_iload (i := 4) (n := 34) dX7_place_32 rfl rfl ?_
            refine J_bipush (n := 36) dX7_place_34 kB_12 rfl ?_
            refine J_icmp_ge (tgt := 71) (n := 39) dX7_place_36 (by decide) rfl (fun c_36 => ?_) (fun c_36 => ?_)
            · refine J_aload_n (i := 0) (n := 72) dX7_place_71 rfl rfl rfl ?_
              refine J_iload_n (i := 3) (n := 73) dX7_place_72 rfl rfl rfl ?_
              refine J_callVr (n := 76) wS_X7_judged (c_M_judged (d + 11) w ⟨rfl, rfl⟩) dX7_place_73 wm_X7_265 ⟨wM_X7_judged, wV_X7_judged⟩ rfl (T_recv (by decide) (by first | assumption | decide)) rfl rfl (Nat.le_of_ble_eq_true rfl) rfl ?_
              refine J_iret dX7_place_76 rfl (kN_i _) ?_
              rw [nI_leI (by omega) (by omega)] at c_36
              have ee : e = 12 := by omega
              subst ee
              rw [mJq.aq hJ1 w (fun z hz => by have := jqs_code _ _ z hz; omega)]
              exact hq _ hm1
            · rw [nI_leI (by omega) (by omega)] at c_36
              refine J_aload_n (i := 0) (n := 40) dX7_place_39 rfl rfl rfl ?_
              refine J_callVx (n := 43) wS_X7_starts (c_M_starts (Q := fun r h => r = none ∧ ∃ v2, mN v2 S.1.1 ∧ mF v1 v2 ∧ h = hp G (gs_set σ 7 0 v2)) (d + 11) (fun v2 k1 _ k3 k4 => ⟨rfl, v2, ⟨hm1.1.1.ext hB k1, by rw [k4]; exact hm1.1.2.2⟩, ⟨k3, k4, k1⟩, rfl⟩)) dX7_place_40 wm_X7_201 ⟨wM_X7_starts, wV_X7_starts⟩ rfl (T_recv (by decide) (by first | assumption | decide)) rfl rfl (Nat.le_of_ble_eq_true rfl) rfl (fun r h1 hq1 => ?_)
              obtain ⟨rfl, v2, hN2, hF2, rfl⟩ := hq1
              refine J_aload_n (i := 0) (n := 44) dX7_place_43 rfl rfl rfl ?_
              refine T_get (k := 1) (n := 47) wk_X7 dX7_place_44 wf_X7_13 (by decide) (by first | assumption | decide) rfl rfl ?_
              refine J_bipush (n := 49) dX7_place_47 kB_30 rfl ?_
              refine J_iload_n (i := 1) (n := 50) dX7_place_49 rfl rfl rfl ?_
              refine J_iadd (n := 51) dX7_place_50 rfl ?_
              rw [nI_add]
              refine J_iload (i := 4) (n := 53) dX7_place_51 rfl rfl ?_
              refine T_iast (c := 7) (k := 1) (N := 57) (n := 54) dX7_place_53 (by decide) (by first | assumption | decide) (fun _ => rfl) (vp_in_nI (by omega) (by decide)) rfl ?_
              rw [nI_clamp (by omega)]
              have hex : pw_ex S.1.1 j e = pw_a S.1.1 4 j e := by
                unfold pw_ex
                rw [Nat.max_eq_left (by omega)]
                exact pw_f_id (pw_a S.1.1 4 j e) 7
              have hQ3 := mQ.w1 v2 (upd (v2.1 1) (30 + j) (nI e))
              have hv3 : (gs_w v2 1 (upd (v2.1 1) (30 + j) (nI e))).2 = v2.2 := rfl
              have hN3 : mN (gs_w v2 1 (upd (v2.1 1) (30 + j) (nI e))) (pw_ex S.1.1 j e) := ⟨by rw [gs_w1]; exact (by rw [hex]; exact hN2.1.route hB e (by omega)), hN2.2⟩
              generalize gs_w v2 1 (upd (v2.1 1) (30 + j) (nI e)) = v3 at hQ3 hv3 hN3 ⊢
              refine J_aload_n (i := 0) (n := 55) dX7_place_54 rfl rfl rfl ?_
              refine J_iload (i := 4) (n := 57) dX7_place_55 rfl rfl ?_
              refine J_aload_n (i := 0) (n := 58) dX7_place_57 rfl rfl rfl ?_
              refine J_iload_n (i := 2) (n := 59) dX7_place_58 rfl rfl rfl ?_
              refine J_callVx (n := 62) wS_X7_metBehind (c_M_metBehind (Q := fun r h => r = some (.int (nI (pw_count (pw_days (pw_ex S.1.1 j e) n).2.1))) ∧ ∃ v4, mE v3 v4 ∧ h = hp G (gs_set σ 7 0 v4)) (d + 4) hN3 (pw_ex_ok hO (by omega) (by omega) (by omega)) (show S.1.1.2.2 10 + n < 2 ^ 30 by omega) (fun v4 _ k2 => ⟨rfl, v4, k2, rfl⟩)) dX7_place_59 wm_X7_258 ⟨wM_X7_metBehind, wV_X7_metBehind⟩ rfl (T_recv (by decide) (by first | assumption | decide)) rfl rfl (Nat.le_of_ble_eq_true rfl) rfl (fun r h1 hq1 => ?_)
              obtain ⟨rfl, v4, hE4, rfl⟩ := hq1
              refine J_callVv (n := 65) wS_X7_judges (c_M_judges (d + 11) _ _ ⟨rfl, rfl⟩) dX7_place_62 wm_X7_261 ⟨wM_X7_judges, wV_X7_judges⟩ rfl (T_recv (by decide) (by first | assumption | decide)) rfl rfl (Nat.le_of_ble_eq_true rfl) rfl ?_
              refine J_inc (i := 4) (n := 68) (lv' := [(0, _), (1, _), (2, _), (3, _), (4, _)]) dX7_place_65 rfl (by decide) rfl rfl ?_
              refine J_goto (tgt := 32) dX7_place_68 (by decide) ?_
              exact ih (e + 1) _ (by omega) (by omega) (hm1.q ((hF2.q.tr hQ3).tr (hE4.q.tr (mQ.j _ _ _)))) (mJq.j (r := jqs (fun e => pw_count (pw_days (pw_ex S.1.1 j e) n).2.1) e) (by unfold mJq; rw [hE4.2.1, hv3, hF2.2.1]; exact hJ1) (Nat.lt_trans hfe (by decide)) (fun z hz => by have := hjl z hz; omega))
        exact loop 13 0 _ (by omega) (by omega) (hm.q ((mQ.f _ 18 _ (Or.inl rfl)).tr (mQ.f _ 19 _ (Or.inr rfl)))) ⟨by simp [gs_f, upd, jqs, mc], by simp [gs_f, upd, jqs, mm]⟩
      · refine J_iconst (n := 23) dX7_place_22 kI_m1 rfl ?_
        refine J_iret dX7_place_23 rfl (kN_i _) ?_
        unfold sp_place at hq
        rw [if_neg (by
          first
          | (rw [nb_0] at c_5; rw [show isC S g = false from c_5, Bool.false_and]; decide)
          | (rw [nb_0] at c_12; rw [c_12, Bool.false_and, Bool.and_false]; decide)
          | (rw [nb_0] at c_19; rw [c_19, Bool.and_false, Bool.and_false]; decide))] at hq
        exact hq v hm

set_option maxHeartbeats 4000000 in
set_option maxRecDepth 100000 in
theorem c_N_extra {G : gx_G} {σ : gs_S} {Q : Option Value → gx_Hp → Prop} {S : pS} {v : gs_Ob} (d : Nat) (x w : Int32) (hS : SOk S) (hm : mR v S) (hq : ∀ v1, mR v1 S → Q (some (.int (sp_extra S x w))) (hp G (gs_set σ 7 0 v1))) : gx_K G yX7_extra mX7_extra (d + 12) 0 0 [.ref (gs_a G 7 0 0), .int x, .int w] (hp G (gs_set σ 7 0 v)) Q := by
  obtain ⟨⟨ha, hsn, hgl⟩, hkm, htp, hft, hsh⟩ := id hm
  have hO := hS.1.1
  have hB := hO.aB
  have h4 : S.1.1.2.2 6 ≤ 4 := hO.2.2.2.2.1
  have h6 : S.1.1.2.2 7 ≤ 6 := hO.2.2.2.2.2.1
  have hm11 : S.1.1.2.2 8 ≤ 11 := hO.2.2.2.2.2.2.1
  have hn9 : S.1.1.2.2 9 ≤ 9999 := hO.2.2.2.2.2.2.2
  have hd9 : S.1.1.2.2 10 ≤ 999 := hS.1.2.2.1
  have h160 : S.2.2.2.1.2 ≤ 160 := hS.2.2.1.1
  have e28 := ha.2.2.2.1
  have e29 := ha.2.2.2.2.1
  have e36 := ha.2.2.2.2.2.1
  have e37 := ha.2.2.2.2.2.2
  have g0 : gs_set σ 7 0 v 7 0 = v := gs_same _ _ _ _
  have hgl0 : (gs_set σ 7 0 v 7 0).2.1 3 = nI (S.1.1.2.2 6) := by rw [g0]; exact hgl
  have ha0 : aR ((gs_set σ 7 0 v 7 0).1 0) S.1.1 := by rw [g0]; exact ha
  refine gx_K.of' (lv := [(0, _), (1, _), (2, _)]) (by decide) rfl (by decide) (Nat.le_of_ble_eq_true rfl) rfl ?_
  refine J_iload_n (i := 1) (n := 1) dX7_extra_0 rfl rfl rfl ?_
  refine J_callSr (n := 4) wS_X7_isFar (c_M_isFar (d + 10) x ⟨rfl, rfl⟩) dX7_extra_1 wm_X7_244 wT_X7_isFar rfl rfl (Nat.le_of_ble_eq_true rfl) rfl ?_
  refine J_if_eq (tgt := 14) (n := 7) dX7_extra_4 (by decide) rfl (fun c_4 => ?_) (fun c_4 => ?_)
  · refine J_iconst (n := 15) dX7_extra_14 kI_m1 rfl ?_
    refine J_iret dX7_extra_15 rfl (kN_i _) ?_
    unfold sp_extra at hq
    rw [if_neg (by first | (rw [nb_0] at c_4; rw [c_4, Bool.false_and]; decide) | (rw [nb_0] at c_11; rw [c_11, Bool.and_false]; decide))] at hq
    exact hq v hm
  · refine J_iload_n (i := 2) (n := 8) dX7_extra_7 rfl rfl rfl ?_
    refine J_callSr (n := 11) wS_X7_isPart (c_M_isPart (d + 10) w ⟨rfl, rfl⟩) dX7_extra_8 wm_X7_216 wT_X7_isPart rfl rfl (Nat.le_of_ble_eq_true rfl) rfl ?_
    refine J_if_ne (tgt := 16) (n := 14) dX7_extra_11 (by decide) rfl (fun c_11 => ?_) (fun c_11 => ?_)
    · rw [nb_t] at c_4 c_11
      unfold sp_extra at hq
      rw [if_pos (by rw [c_4, c_11]; rfl)] at hq
      obtain ⟨n, hn60, rfl⟩ := ix_of c_4 (by decide)
      rw [nat_nI (by omega)] at hq
      refine J_aload_n (i := 0) (n := 17) dX7_extra_16 rfl rfl rfl ?_
      refine T_get (k := 0) (n := 20) wk_X7 dX7_extra_17 wf_X7_7 (by decide) (by first | assumption | decide) rfl rfl ?_
      refine J_bipush (n := 22) dX7_extra_20 kB_29 rfl ?_
      refine T_iald (c := 7) (k := 0) (N := 171) (n := 23) dX7_extra_22 (by decide) (by first | assumption | decide) rfl (vp_in_nI (by decide) (by decide)) rfl ?_
      rw [nI_clamp (by decide), e29]
      refine J_bipush (n := 25) dX7_extra_23 kB_6 rfl ?_
      refine J_icmp_ne (tgt := 31) (n := 28) dX7_extra_25 (by decide) rfl (fun c_25 => ?_) (fun c_25 => ?_)
      · rw [nI_eq (by omega) (by omega)] at c_25
        rw [if_neg (by omega)] at hq
        refine J_aload_n (i := 0) (n := 32) dX7_extra_31 rfl rfl rfl ?_
        refine J_iconst (n := 33) dX7_extra_32 kI_m1 rfl ?_
        refine J_callVv (n := 36) wS_X7_startsJudging (c_M_startsJudging (d + 11) _ ⟨rfl, rfl⟩) dX7_extra_33 wm_X7_255 ⟨wM_X7_startsJudging, wV_X7_startsJudging⟩ rfl (T_recv (by decide) (by first | assumption | decide)) rfl rfl (Nat.le_of_ble_eq_true rfl) rfl ?_
        refine J_iconst (n := 37) dX7_extra_36 kI_0 rfl ?_
        refine J_istore_n (i := 3) (n := 38) (lv' := [(0, _), (1, _), (2, _), (3, _)]) dX7_extra_37 rfl (by decide) rfl rfl ?_
        have hfl : ∀ e, (fun e => pw_count (pw_days (pw_ex S.1.1 (S.1.1.2.2 7) e) n).2.1) e < 5 := fun e => pw_count_le _
        have loop : ∀ u e v1, 12 - e < u → e ≤ 12 → mR v1 S → mJq v1 (jqs (fun e => pw_count (pw_days (pw_ex S.1.1 (S.1.1.2.2 7) e) n).2.1) e) → gx_J G mX7_extra (d + 12) 0 0 Q 38 [(0, .ref (gs_a G 7 0 0)), (1, .int (nI n)), (2, .int w), (3, .int (nI e))] [] (hp G (gs_set σ 7 0 v1)) := by
          intro u
          induction u with
          | zero => intros; exact absurd (by assumption) (Nat.not_lt_zero _)
          | succ u ih =>
            intro e v1 hu he hm1 hJ1
            have hjl := jqs_lt hfl e
            have hfe := hfl e
            refine J_iload_n (i := 3) (n := 39) dX7_extra_38 rfl rfl rfl ?_
            refine J_bipush (n := 41) dX7_extra_39 kB_12 rfl ?_
            refine J_icmp_ge (tgt := 91) (n := 44) dX7_extra_41 (by decide) rfl (fun c_41 => ?_) (fun c_41 => ?_)
            · refine J_aload_n (i := 0) (n := 92) dX7_extra_91 rfl rfl rfl ?_
              refine J_iload_n (i := 2) (n := 93) dX7_extra_92 rfl rfl rfl ?_
              refine J_callVr (n := 96) wS_X7_judged (c_M_judged (d + 11) w ⟨rfl, rfl⟩) dX7_extra_93 wm_X7_265 ⟨wM_X7_judged, wV_X7_judged⟩ rfl (T_recv (by decide) (by first | assumption | decide)) rfl rfl (Nat.le_of_ble_eq_true rfl) rfl ?_
              refine J_iret dX7_extra_96 rfl (kN_i _) ?_
              rw [nI_leI (by omega) (by omega)] at c_41
              have ee : e = 12 := by omega
              subst ee
              rw [mJq.aq hJ1 w (fun z hz => by have := jqs_code _ _ z hz; omega)]
              exact hq _ hm1
            · rw [nI_leI (by omega) (by omega)] at c_41
              refine J_aload_n (i := 0) (n := 45) dX7_extra_44 rfl rfl rfl ?_
              refine J_callVx (n := 48) wS_X7_starts (c_M_starts (Q := fun r h => r = none ∧ ∃ v2, mN v2 S.1.1 ∧ mF v1 v2 ∧ h = hp G (gs_set σ 7 0 v2)) (d + 11) (fun v2 k1 _ k3 k4 => ⟨rfl, v2, ⟨hm1.1.1.ext hB k1, by rw [k4]; exact hm1.1.2.2⟩, ⟨k3, k4, k1⟩, rfl⟩)) dX7_extra_45 wm_X7_201 ⟨wM_X7_starts, wV_X7_starts⟩ rfl (T_recv (by decide) (by first | assumption | decide)) rfl rfl (Nat.le_of_ble_eq_true rfl) rfl (fun r h1 hq1 => ?_)
              obtain ⟨rfl, v2, hN2, hF2, rfl⟩ := hq1
              refine J_aload_n (i := 0) (n := 49) dX7_extra_48 rfl rfl rfl ?_
              refine T_get (k := 1) (n := 52) wk_X7 dX7_extra_49 wf_X7_13 (by decide) (by first | assumption | decide) rfl rfl ?_
              refine J_bipush (n := 54) dX7_extra_52 kB_30 rfl ?_
              refine J_aload_n (i := 0) (n := 55) dX7_extra_54 rfl rfl rfl ?_
              refine T_get (k := 1) (n := 58) wk_X7 dX7_extra_55 wf_X7_13 (by decide) (by first | assumption | decide) rfl rfl ?_
              refine J_bipush (n := 60) dX7_extra_58 kB_29 rfl ?_
              refine T_iald (c := 7) (k := 1) (N := 57) (n := 61) dX7_extra_60 (by decide) (by first | assumption | decide) rfl (vp_in_nI (by decide) (by decide)) rfl ?_
              refine J_iadd (n := 62) dX7_extra_61 rfl ?_
              rw [nI_clamp (by decide), hN2.1.2.2.2.2.1, nI_add]
              refine J_iload_n (i := 3) (n := 63) dX7_extra_62 rfl rfl rfl ?_
              refine T_iast (c := 7) (k := 1) (N := 57) (n := 64) dX7_extra_63 (by decide) (by first | assumption | decide) (fun _ => rfl) (vp_in_nI (by omega) (by decide)) rfl ?_
              rw [nI_clamp (by omega)]
              have hA1 : aR (upd (v2.1 1) (30 + S.1.1.2.2 7) (nI e)) (pw_a S.1.1 4 (S.1.1.2.2 7) e) := hN2.1.route hB e (by omega)
              refine J_aload_n (i := 0) (n := 65) dX7_extra_64 rfl rfl rfl ?_
              refine T_get (k := 1) (n := 68) wk_X7 dX7_extra_65 wf_X7_13 (by decide) (by first | assumption | decide) rfl rfl ?_
              refine J_bipush (n := 70) dX7_extra_68 kB_29 rfl ?_
              refine J_dup2 (n := 71) dX7_extra_70 rfl rfl rfl ?_
              refine T_iald (c := 7) (k := 1) (N := 57) (n := 72) dX7_extra_71 (by decide) (by first | assumption | decide) rfl (vp_in_nI (by decide) (by decide)) rfl ?_
              rw [nI_clamp (by decide), show (gs_w v2 1 (upd (v2.1 1) (30 + S.1.1.2.2 7) (nI e))).1 1 29 = nI (S.1.1.2.2 7) from by rw [gs_w1, pk_un (by omega)]; exact hN2.1.2.2.2.2.1]
              refine J_iconst (n := 73) dX7_extra_72 kI_1 rfl ?_
              refine J_iadd (n := 74) dX7_extra_73 rfl ?_
              rw [nI_add]
              refine T_iast (c := 7) (k := 1) (N := 57) (n := 75) dX7_extra_74 (by decide) (by first | assumption | decide) (fun _ => rfl) (vp_in_nI (by decide) (by decide)) rfl ?_
              rw [nI_clamp (by decide), gs_w1, show gs_w (gs_w v2 1 (upd (v2.1 1) (30 + S.1.1.2.2 7) (nI e))) 1 (upd (upd (v2.1 1) (30 + S.1.1.2.2 7) (nI e)) 29 (nI (S.1.1.2.2 7 + 1))) = gs_w v2 1 (upd (upd (v2.1 1) (30 + S.1.1.2.2 7) (nI e)) 29 (nI (S.1.1.2.2 7 + 1))) from by unfold gs_w; rw [bx_uu]]
              have hex : pw_ex S.1.1 (S.1.1.2.2 7) e = pw_f (pw_a S.1.1 4 (S.1.1.2.2 7) e) 7 (S.1.1.2.2 7 + 1) := by
                unfold pw_ex
                rw [Nat.max_eq_right (by omega)]
              have hQ3 := mQ.w1 v2 (upd (upd (v2.1 1) (30 + S.1.1.2.2 7) (nI e)) 29 (nI (S.1.1.2.2 7 + 1)))
              have hv3 : (gs_w v2 1 (upd (upd (v2.1 1) (30 + S.1.1.2.2 7) (nI e)) 29 (nI (S.1.1.2.2 7 + 1)))).2 = v2.2 := rfl
              have hN3 : mN (gs_w v2 1 (upd (upd (v2.1 1) (30 + S.1.1.2.2 7) (nI e)) 29 (nI (S.1.1.2.2 7 + 1)))) (pw_ex S.1.1 (S.1.1.2.2 7) e) := ⟨by rw [gs_w1]; exact (by
                  rw [hex]
                  refine hA1.callsTo hB _ (fun q q1 q2 => ?_) (by omega)
                  have q1 : S.1.1.2.2 7 ≤ q := q1
                  have eq : q = S.1.1.2.2 7 := by omega
                  subst eq
                  rw [pk_us]; simp [pw_a]), hN2.2⟩
              generalize gs_w v2 1 (upd (upd (v2.1 1) (30 + S.1.1.2.2 7) (nI e)) 29 (nI (S.1.1.2.2 7 + 1))) = v3 at hQ3 hv3 hN3 ⊢
              refine J_aload_n (i := 0) (n := 76) dX7_extra_75 rfl rfl rfl ?_
              refine J_iload_n (i := 3) (n := 77) dX7_extra_76 rfl rfl rfl ?_
              refine J_aload_n (i := 0) (n := 78) dX7_extra_77 rfl rfl rfl ?_
              refine J_iload_n (i := 1) (n := 79) dX7_extra_78 rfl rfl rfl ?_
              refine J_callVx (n := 82) wS_X7_metBehind (c_M_metBehind (Q := fun r h => r = some (.int (nI (pw_count (pw_days (pw_ex S.1.1 (S.1.1.2.2 7) e) n).2.1))) ∧ ∃ v4, mE v3 v4 ∧ h = hp G (gs_set σ 7 0 v4)) (d + 4) hN3 (pw_ex_ok hO (by omega) (by omega) (by omega)) (show S.1.1.2.2 10 + n < 2 ^ 30 by omega) (fun v4 _ k2 => ⟨rfl, v4, k2, rfl⟩)) dX7_extra_79 wm_X7_258 ⟨wM_X7_metBehind, wV_X7_metBehind⟩ rfl (T_recv (by decide) (by first | assumption | decide)) rfl rfl (Nat.le_of_ble_eq_true rfl) rfl (fun r h1 hq1 => ?_)
              obtain ⟨rfl, v4, hE4, rfl⟩ := hq1
              refine J_callVv (n := 85) wS_X7_judges (c_M_judges (d + 11) _ _ ⟨rfl, rfl⟩) dX7_extra_82 wm_X7_261 ⟨wM_X7_judges, wV_X7_judges⟩ rfl (T_recv (by decide) (by first | assumption | decide)) rfl rfl (Nat.le_of_ble_eq_true rfl) rfl ?_
              refine J_inc (i := 3) (n := 88) (lv' := [(0, _), (1, _), (2, _), (3, _)]) dX7_extra_85 rfl (by decide) rfl rfl ?_
              refine J_goto (tgt := 38) dX7_extra_88 (by decide) ?_
              exact ih (e + 1) _ (by omega) (by omega) (hm1.q ((hF2.q.tr hQ3).tr (hE4.q.tr (mQ.j _ _ _)))) (mJq.j (r := jqs (fun e => pw_count (pw_days (pw_ex S.1.1 (S.1.1.2.2 7) e) n).2.1) e) (by unfold mJq; rw [hE4.2.1, hv3, hF2.2.1]; exact hJ1) (Nat.lt_trans hfe (by decide)) (fun z hz => by have := hjl z hz; omega))
        exact loop 13 0 _ (by omega) (by omega) (hm.q ((mQ.f _ 18 _ (Or.inl rfl)).tr (mQ.f _ 19 _ (Or.inr rfl)))) ⟨by simp [gs_f, upd, jqs, mc], by simp [gs_f, upd, jqs, mm]⟩
      · rw [nI_eq (by omega) (by omega)] at c_25
        refine J_bipush (n := 30) dX7_extra_28 kB_m3 rfl ?_
        refine J_iret dX7_extra_30 rfl (kN_i _) ?_
        rw [if_pos (by omega)] at hq
        exact hq v hm
    · refine J_iconst (n := 15) dX7_extra_14 kI_m1 rfl ?_
      refine J_iret dX7_extra_15 rfl (kN_i _) ?_
      unfold sp_extra at hq
      rw [if_neg (by first | (rw [nb_0] at c_4; rw [c_4, Bool.false_and]; decide) | (rw [nb_0] at c_11; rw [c_11, Bool.and_false]; decide))] at hq
      exact hq v hm

set_option maxHeartbeats 4000000 in
set_option maxRecDepth 100000 in
theorem c_N_kind {G : gx_G} {σ : gs_S} {Q : Option Value → gx_Hp → Prop} {S : pS} {v : gs_Ob} (d : Nat) (g x w : Int32) (hS : SOk S) (hm : mR v S) (hq : ∀ v1, mR v1 S → Q (some (.int (sp_kind S g x w))) (hp G (gs_set σ 7 0 v1))) : gx_K G yX7_kind mX7_kind (d + 12) 0 0 [.ref (gs_a G 7 0 0), .int g, .int x, .int w] (hp G (gs_set σ 7 0 v)) Q := by
  obtain ⟨⟨ha, hsn, hgl⟩, hkm, htp, hft, hsh⟩ := id hm
  have hO := hS.1.1
  have hB := hO.aB
  have h4 : S.1.1.2.2 6 ≤ 4 := hO.2.2.2.2.1
  have h6 : S.1.1.2.2 7 ≤ 6 := hO.2.2.2.2.2.1
  have hm11 : S.1.1.2.2 8 ≤ 11 := hO.2.2.2.2.2.2.1
  have hn9 : S.1.1.2.2 9 ≤ 9999 := hO.2.2.2.2.2.2.2
  have hd9 : S.1.1.2.2 10 ≤ 999 := hS.1.2.2.1
  have h160 : S.2.2.2.1.2 ≤ 160 := hS.2.2.1.1
  have e28 := ha.2.2.2.1
  have e29 := ha.2.2.2.2.1
  have e36 := ha.2.2.2.2.2.1
  have e37 := ha.2.2.2.2.2.2
  have g0 : gs_set σ 7 0 v 7 0 = v := gs_same _ _ _ _
  have hgl0 : (gs_set σ 7 0 v 7 0).2.1 3 = nI (S.1.1.2.2 6) := by rw [g0]; exact hgl
  have ha0 : aR ((gs_set σ 7 0 v 7 0).1 0) S.1.1 := by rw [g0]; exact ha
  refine gx_K.of' (lv := [(0, _), (1, _), (2, _), (3, _)]) (by decide) rfl (by decide) (Nat.le_of_ble_eq_true rfl) rfl ?_
  refine J_aload_n (i := 0) (n := 1) dX7_kind_0 rfl rfl rfl ?_
  refine J_iload_n (i := 1) (n := 2) dX7_kind_1 rfl rfl rfl ?_
  refine J_callVr (n := 5) wS_X7_isGlove (c_M_isGlove (d + 10) g (S.1.1.2.2 6) hgl0 (by omega) ⟨rfl, rfl⟩) dX7_kind_2 wm_X7_210 ⟨wM_X7_isGlove, wV_X7_isGlove⟩ rfl (T_recv (by decide) (by first | assumption | decide)) rfl rfl (Nat.le_of_ble_eq_true rfl) rfl ?_
  refine J_if_eq (tgt := 22) (n := 8) dX7_kind_5 (by decide) rfl (fun c_5 => ?_) (fun c_5 => ?_)
  · refine J_iconst (n := 23) dX7_kind_22 kI_m1 rfl ?_
    refine J_iret dX7_kind_23 rfl (kN_i _) ?_
    unfold sp_kind at hq
    rw [if_neg (by
      first
      | (rw [nb_0] at c_5; rw [show isG S g = false from c_5, Bool.false_and]; decide)
      | (rw [nb_0] at c_12; rw [c_12, Bool.false_and, Bool.and_false]; decide)
      | (rw [nb_0] at c_19; rw [c_19, Bool.and_false, Bool.and_false]; decide))] at hq
    exact hq v hm
  · refine J_iload_n (i := 2) (n := 9) dX7_kind_8 rfl rfl rfl ?_
    refine J_callSr (n := 12) wS_X7_isFar (c_M_isFar (d + 10) x ⟨rfl, rfl⟩) dX7_kind_9 wm_X7_244 wT_X7_isFar rfl rfl (Nat.le_of_ble_eq_true rfl) rfl ?_
    refine J_if_eq (tgt := 22) (n := 15) dX7_kind_12 (by decide) rfl (fun c_12 => ?_) (fun c_12 => ?_)
    · refine J_iconst (n := 23) dX7_kind_22 kI_m1 rfl ?_
      refine J_iret dX7_kind_23 rfl (kN_i _) ?_
      unfold sp_kind at hq
      rw [if_neg (by
        first
        | (rw [nb_0] at c_5; rw [show isG S g = false from c_5, Bool.false_and]; decide)
        | (rw [nb_0] at c_12; rw [c_12, Bool.false_and, Bool.and_false]; decide)
        | (rw [nb_0] at c_19; rw [c_19, Bool.and_false, Bool.and_false]; decide))] at hq
      exact hq v hm
    · refine J_iload_n (i := 3) (n := 16) dX7_kind_15 rfl rfl rfl ?_
      refine J_callSr (n := 19) wS_X7_isPart (c_M_isPart (d + 10) w ⟨rfl, rfl⟩) dX7_kind_16 wm_X7_216 wT_X7_isPart rfl rfl (Nat.le_of_ble_eq_true rfl) rfl ?_
      refine J_if_ne (tgt := 24) (n := 22) dX7_kind_19 (by decide) rfl (fun c_19 => ?_) (fun c_19 => ?_)
      · rw [nb_t] at c_5 c_12 c_19
        unfold sp_kind at hq
        rw [if_pos (by rw [show isG S g = true from c_5, c_12, c_19]; rfl)] at hq
        obtain ⟨j, hj, rfl⟩ := isG_of (S := S) c_5 hO
        obtain ⟨n, hn60, rfl⟩ := ix_of c_12 (by decide)
        rw [nat_nI (by omega), nat_nI (by omega)] at hq
        refine J_aload_n (i := 0) (n := 25) dX7_kind_24 rfl rfl rfl ?_
        refine J_iconst (n := 26) dX7_kind_25 kI_m1 rfl ?_
        refine J_callVv (n := 29) wS_X7_startsJudging (c_M_startsJudging (d + 11) _ ⟨rfl, rfl⟩) dX7_kind_26 wm_X7_255 ⟨wM_X7_startsJudging, wV_X7_startsJudging⟩ rfl (T_recv (by decide) (by first | assumption | decide)) rfl rfl (Nat.le_of_ble_eq_true rfl) rfl ?_
        refine J_iconst (n := 30) dX7_kind_29 kI_0 rfl ?_
        refine J_istore (i := 4) (n := 32) (lv' := [(0, _), (1, _), (2, _), (3, _), (4, _)]) dX7_kind_30 (by decide) rfl rfl ?_
        have hfl : ∀ e, (fun z => nb S.1.1 (pw_a S.1.1 1 j z) n) e < 10000 := fun e => nb_lt (q := pw_a S.1.1 1 j e) hn9 n
        have loop : ∀ u e v1, 4 - e < u → e ≤ 4 → mR v1 S → mJq v1 (jqs (fun z => nb S.1.1 (pw_a S.1.1 1 j z) n) e) → gx_J G mX7_kind (d + 12) 0 0 Q 32 [(0, .ref (gs_a G 7 0 0)), (1, .int (nI j)), (2, .int (nI n)), (3, .int w), (4, .int (nI e))] [] (hp G (gs_set σ 7 0 v1)) := by
          intro u
          induction u with
          | zero => intros; exact absurd (by assumption) (Nat.not_lt_zero _)
          | succ u ih =>
            intro e v1 hu he hm1 hJ1
            have hjl := jqs_lt hfl e
            have hfe := hfl e
            refine J_iload (i := 4) (n := 34) dX7_kind_32 rfl rfl ?_
            refine J_iconst (n := 35) dX7_kind_34 kI_4 rfl ?_
            refine J_icmp_ge (tgt := 67) (n := 38) dX7_kind_35 (by decide) rfl (fun c_35 => ?_) (fun c_35 => ?_)
            · refine J_aload_n (i := 0) (n := 68) dX7_kind_67 rfl rfl rfl ?_
              refine J_iload_n (i := 3) (n := 69) dX7_kind_68 rfl rfl rfl ?_
              refine J_callVr (n := 72) wS_X7_judged (c_M_judged (d + 11) w ⟨rfl, rfl⟩) dX7_kind_69 wm_X7_265 ⟨wM_X7_judged, wV_X7_judged⟩ rfl (T_recv (by decide) (by first | assumption | decide)) rfl rfl (Nat.le_of_ble_eq_true rfl) rfl ?_
              refine J_iret dX7_kind_72 rfl (kN_i _) ?_
              rw [nI_leI (by omega) (by omega)] at c_35
              have ee : e = 4 := by omega
              subst ee
              rw [mJq.aq hJ1 w (fun z hz => by have := jqs_code _ _ z hz; omega)]
              exact hq _ hm1
            · rw [nI_leI (by omega) (by omega)] at c_35
              refine J_aload_n (i := 0) (n := 39) dX7_kind_38 rfl rfl rfl ?_
              refine J_callVx (n := 42) wS_X7_starts (c_M_starts (Q := fun r h => r = none ∧ ∃ v2, mN v2 S.1.1 ∧ mF v1 v2 ∧ h = hp G (gs_set σ 7 0 v2)) (d + 11) (fun v2 k1 _ k3 k4 => ⟨rfl, v2, ⟨hm1.1.1.ext hB k1, by rw [k4]; exact hm1.1.2.2⟩, ⟨k3, k4, k1⟩, rfl⟩)) dX7_kind_39 wm_X7_201 ⟨wM_X7_starts, wV_X7_starts⟩ rfl (T_recv (by decide) (by first | assumption | decide)) rfl rfl (Nat.le_of_ble_eq_true rfl) rfl (fun r h1 hq1 => ?_)
              obtain ⟨rfl, v2, hN2, hF2, rfl⟩ := hq1
              refine J_aload_n (i := 0) (n := 43) dX7_kind_42 rfl rfl rfl ?_
              refine J_iload_n (i := 1) (n := 44) dX7_kind_43 rfl rfl rfl ?_
              refine J_iconst (n := 45) dX7_kind_44 kI_0 rfl ?_
              refine J_iload (i := 4) (n := 47) dX7_kind_45 rfl rfl ?_
              refine J_callVv (n := 50) wS_X7_becomesOf (c_M_becomesOf (d + 11) (k := 0) _ (by omega) (by omega) ⟨rfl, rfl⟩) dX7_kind_47 wm_X7_169 ⟨wM_X7_becomesOf, wV_X7_becomesOf⟩ rfl (T_recv (by decide) (by first | assumption | decide)) rfl rfl (Nat.le_of_ble_eq_true rfl) rfl ?_
              have hQ3 := mQ.w1 v2 (upd (v2.1 1) (12 + 4 * j + 0) (nI e))
              have hv3 : (gs_w v2 1 (upd (v2.1 1) (12 + 4 * j + 0) (nI e))).2 = v2.2 := rfl
              have hN3 : mN (gs_w v2 1 (upd (v2.1 1) (12 + 4 * j + 0) (nI e))) (pw_a S.1.1 1 j e) := ⟨by rw [gs_w1]; exact hN2.1.part hB (k := 0) e hj (by decide), hN2.2⟩
              generalize gs_w v2 1 (upd (v2.1 1) (12 + 4 * j + 0) (nI e)) = v3 at hQ3 hv3 hN3 ⊢
              refine J_aload_n (i := 0) (n := 51) dX7_kind_50 rfl rfl rfl ?_
              refine J_iload (i := 4) (n := 53) dX7_kind_51 rfl rfl ?_
              refine J_aload_n (i := 0) (n := 54) dX7_kind_53 rfl rfl rfl ?_
              refine J_iload_n (i := 2) (n := 55) dX7_kind_54 rfl rfl rfl ?_
              refine J_callVx (n := 58) wS_X7_nameBehind (c_M_nameBehind (Q := fun r h => r = some (.int (nI (nb S.1.1 (pw_a S.1.1 1 j e) n))) ∧ ∃ v4, mE v3 v4 ∧ h = hp G (gs_set σ 7 0 v4)) (d + 4) hN3 (pw_a_ok hO (by omega)) (show S.1.1.2.2 10 + n < 2 ^ 30 by omega) (show v3.1 0 36 = nI (S.1.1.2.2 9) by rw [hQ3.1 0 (by decide), hF2.1 0 (by decide)]; exact hm1.1.1.2.2.2.2.2.1) (fun v4 _ k2 => ⟨by rw [nb_eq (q := (pw_a S.1.1 1 j e)) hn9 rfl n, pk_sub (by omega), Nat.add_sub_cancel_left], v4, k2, rfl⟩)) dX7_kind_55 wm_X7_236 ⟨wM_X7_nameBehind, wV_X7_nameBehind⟩ rfl (T_recv (by decide) (by first | assumption | decide)) rfl rfl (Nat.le_of_ble_eq_true rfl) rfl (fun r h1 hq1 => ?_)
              obtain ⟨rfl, v4, hE4, rfl⟩ := hq1
              refine J_callVv (n := 61) wS_X7_judges (c_M_judges (d + 11) _ _ ⟨rfl, rfl⟩) dX7_kind_58 wm_X7_261 ⟨wM_X7_judges, wV_X7_judges⟩ rfl (T_recv (by decide) (by first | assumption | decide)) rfl rfl (Nat.le_of_ble_eq_true rfl) rfl ?_
              refine J_inc (i := 4) (n := 64) (lv' := [(0, _), (1, _), (2, _), (3, _), (4, _)]) dX7_kind_61 rfl (by decide) rfl rfl ?_
              refine J_goto (tgt := 32) dX7_kind_64 (by decide) ?_
              exact ih (e + 1) _ (by omega) (by omega) (hm1.q ((hF2.q.tr hQ3).tr (hE4.q.tr (mQ.j _ _ _)))) (mJq.j (r := jqs (fun z => nb S.1.1 (pw_a S.1.1 1 j z) n) e) (by unfold mJq; rw [hE4.2.1, hv3, hF2.2.1]; exact hJ1) (Nat.lt_trans hfe (by decide)) (fun z hz => by have := hjl z hz; omega))
        exact loop 5 0 _ (by omega) (by omega) (hm.q ((mQ.f _ 18 _ (Or.inl rfl)).tr (mQ.f _ 19 _ (Or.inr rfl)))) ⟨by simp [gs_f, upd, jqs, mc], by simp [gs_f, upd, jqs, mm]⟩
      · refine J_iconst (n := 23) dX7_kind_22 kI_m1 rfl ?_
        refine J_iret dX7_kind_23 rfl (kN_i _) ?_
        unfold sp_kind at hq
        rw [if_neg (by
          first
          | (rw [nb_0] at c_5; rw [show isG S g = false from c_5, Bool.false_and]; decide)
          | (rw [nb_0] at c_12; rw [c_12, Bool.false_and, Bool.and_false]; decide)
          | (rw [nb_0] at c_19; rw [c_19, Bool.and_false, Bool.and_false]; decide))] at hq
        exact hq v hm

set_option maxHeartbeats 4000000 in
set_option maxRecDepth 100000 in
theorem c_N_drop {G : gx_G} {σ : gs_S} {Q : Option Value → gx_Hp → Prop} {S : pS} {v : gs_Ob} (d : Nat) (g x w : Int32) (hS : SOk S) (hm : mR v S) (hq : ∀ v1, mR v1 S → Q (some (.int (sp_drop S g x w))) (hp G (gs_set σ 7 0 v1))) : gx_K G yX7_drop mX7_drop (d + 12) 0 0 [.ref (gs_a G 7 0 0), .int g, .int x, .int w] (hp G (gs_set σ 7 0 v)) Q := by
  obtain ⟨⟨ha, hsn, hgl⟩, hkm, htp, hft, hsh⟩ := id hm
  have hO := hS.1.1
  have hB := hO.aB
  have h4 : S.1.1.2.2 6 ≤ 4 := hO.2.2.2.2.1
  have h6 : S.1.1.2.2 7 ≤ 6 := hO.2.2.2.2.2.1
  have hm11 : S.1.1.2.2 8 ≤ 11 := hO.2.2.2.2.2.2.1
  have hn9 : S.1.1.2.2 9 ≤ 9999 := hO.2.2.2.2.2.2.2
  have hd9 : S.1.1.2.2 10 ≤ 999 := hS.1.2.2.1
  have h160 : S.2.2.2.1.2 ≤ 160 := hS.2.2.1.1
  have e28 := ha.2.2.2.1
  have e29 := ha.2.2.2.2.1
  have e36 := ha.2.2.2.2.2.1
  have e37 := ha.2.2.2.2.2.2
  have g0 : gs_set σ 7 0 v 7 0 = v := gs_same _ _ _ _
  have hgl0 : (gs_set σ 7 0 v 7 0).2.1 3 = nI (S.1.1.2.2 6) := by rw [g0]; exact hgl
  have ha0 : aR ((gs_set σ 7 0 v 7 0).1 0) S.1.1 := by rw [g0]; exact ha
  refine gx_K.of' (lv := [(0, _), (1, _), (2, _), (3, _)]) (by decide) rfl (by decide) (Nat.le_of_ble_eq_true rfl) rfl ?_
  refine J_aload_n (i := 0) (n := 1) dX7_drop_0 rfl rfl rfl ?_
  refine J_iload_n (i := 1) (n := 2) dX7_drop_1 rfl rfl rfl ?_
  refine J_callVr (n := 5) wS_X7_isGlove (c_M_isGlove (d + 10) g (S.1.1.2.2 6) hgl0 (by omega) ⟨rfl, rfl⟩) dX7_drop_2 wm_X7_210 ⟨wM_X7_isGlove, wV_X7_isGlove⟩ rfl (T_recv (by decide) (by first | assumption | decide)) rfl rfl (Nat.le_of_ble_eq_true rfl) rfl ?_
  refine J_if_eq (tgt := 22) (n := 8) dX7_drop_5 (by decide) rfl (fun c_5 => ?_) (fun c_5 => ?_)
  · refine J_iconst (n := 23) dX7_drop_22 kI_m1 rfl ?_
    refine J_iret dX7_drop_23 rfl (kN_i _) ?_
    unfold sp_drop at hq
    rw [if_neg (by
      first
      | (rw [nb_0] at c_5; rw [show isG S g = false from c_5, Bool.false_and]; decide)
      | (rw [nb_0] at c_12; rw [c_12, Bool.false_and, Bool.and_false]; decide)
      | (rw [nb_0] at c_19; rw [c_19, Bool.and_false, Bool.and_false]; decide))] at hq
    exact hq v hm
  · refine J_iload_n (i := 2) (n := 9) dX7_drop_8 rfl rfl rfl ?_
    refine J_callSr (n := 12) wS_X7_isFar (c_M_isFar (d + 10) x ⟨rfl, rfl⟩) dX7_drop_9 wm_X7_244 wT_X7_isFar rfl rfl (Nat.le_of_ble_eq_true rfl) rfl ?_
    refine J_if_eq (tgt := 22) (n := 15) dX7_drop_12 (by decide) rfl (fun c_12 => ?_) (fun c_12 => ?_)
    · refine J_iconst (n := 23) dX7_drop_22 kI_m1 rfl ?_
      refine J_iret dX7_drop_23 rfl (kN_i _) ?_
      unfold sp_drop at hq
      rw [if_neg (by
        first
        | (rw [nb_0] at c_5; rw [show isG S g = false from c_5, Bool.false_and]; decide)
        | (rw [nb_0] at c_12; rw [c_12, Bool.false_and, Bool.and_false]; decide)
        | (rw [nb_0] at c_19; rw [c_19, Bool.and_false, Bool.and_false]; decide))] at hq
      exact hq v hm
    · refine J_iload_n (i := 3) (n := 16) dX7_drop_15 rfl rfl rfl ?_
      refine J_callSr (n := 19) wS_X7_isPart (c_M_isPart (d + 10) w ⟨rfl, rfl⟩) dX7_drop_16 wm_X7_216 wT_X7_isPart rfl rfl (Nat.le_of_ble_eq_true rfl) rfl ?_
      refine J_if_ne (tgt := 24) (n := 22) dX7_drop_19 (by decide) rfl (fun c_19 => ?_) (fun c_19 => ?_)
      · rw [nb_t] at c_5 c_12 c_19
        unfold sp_drop at hq
        rw [if_pos (by rw [show isG S g = true from c_5, c_12, c_19]; rfl)] at hq
        obtain ⟨j, hj, rfl⟩ := isG_of (S := S) c_5 hO
        obtain ⟨n, hn60, rfl⟩ := ix_of c_12 (by decide)
        rw [nat_nI (by omega), nat_nI (by omega)] at hq
        refine J_aload_n (i := 0) (n := 25) dX7_drop_24 rfl rfl rfl ?_
        refine J_iload_n (i := 1) (n := 26) dX7_drop_25 rfl rfl rfl ?_
        refine J_callVr (n := 29) wS_X7_wasPaired (c_M_wasPaired (d + 11) ha0 hB hj ⟨rfl, rfl⟩) dX7_drop_26 wm_X7_226 ⟨wM_X7_wasPaired, wV_X7_wasPaired⟩ rfl (T_recv (by decide) (by first | assumption | decide)) rfl rfl (Nat.le_of_ble_eq_true rfl) rfl ?_
        refine J_if_eq (tgt := 35) (n := 32) dX7_drop_29 (by decide) rfl (fun c_29 => ?_) (fun c_29 => ?_)
        · rw [nb_0] at c_29
          rw [if_neg (by rw [c_29]; decide)] at hq
          refine J_aload_n (i := 0) (n := 36) dX7_drop_35 rfl rfl rfl ?_
          refine J_iconst (n := 37) dX7_drop_36 kI_m1 rfl ?_
          refine J_callVv (n := 40) wS_X7_startsJudging (c_M_startsJudging (d + 11) _ ⟨rfl, rfl⟩) dX7_drop_37 wm_X7_255 ⟨wM_X7_startsJudging, wV_X7_startsJudging⟩ rfl (T_recv (by decide) (by first | assumption | decide)) rfl rfl (Nat.le_of_ble_eq_true rfl) rfl ?_
          refine J_iconst (n := 41) dX7_drop_40 kI_0 rfl ?_
          refine J_istore (i := 4) (n := 43) (lv' := [(0, _), (1, _), (2, _), (3, _), (4, _)]) dX7_drop_41 (by decide) rfl rfl ?_
          have hfl : ∀ e, (fun z => nb S.1.1 (pw_a S.1.1 2 j z) n) e < 10000 := fun e => nb_lt (q := pw_a S.1.1 2 j e) hn9 n
          have loop : ∀ u e v1, 12 - e < u → e ≤ 12 → mR v1 S → mJq v1 (jqs (fun z => nb S.1.1 (pw_a S.1.1 2 j z) n) e) → gx_J G mX7_drop (d + 12) 0 0 Q 43 [(0, .ref (gs_a G 7 0 0)), (1, .int (nI j)), (2, .int (nI n)), (3, .int w), (4, .int (nI e))] [] (hp G (gs_set σ 7 0 v1)) := by
            intro u
            induction u with
            | zero => intros; exact absurd (by assumption) (Nat.not_lt_zero _)
            | succ u ih =>
              intro e v1 hu he hm1 hJ1
              have hjl := jqs_lt hfl e
              have hfe := hfl e
              refine J_iload (i := 4) (n := 45) dX7_drop_43 rfl rfl ?_
              refine J_bipush (n := 47) dX7_drop_45 kB_12 rfl ?_
              refine J_icmp_ge (tgt := 79) (n := 50) dX7_drop_47 (by decide) rfl (fun c_47 => ?_) (fun c_47 => ?_)
              · refine J_aload_n (i := 0) (n := 80) dX7_drop_79 rfl rfl rfl ?_
                refine J_iload_n (i := 3) (n := 81) dX7_drop_80 rfl rfl rfl ?_
                refine J_callVr (n := 84) wS_X7_judged (c_M_judged (d + 11) w ⟨rfl, rfl⟩) dX7_drop_81 wm_X7_265 ⟨wM_X7_judged, wV_X7_judged⟩ rfl (T_recv (by decide) (by first | assumption | decide)) rfl rfl (Nat.le_of_ble_eq_true rfl) rfl ?_
                refine J_iret dX7_drop_84 rfl (kN_i _) ?_
                rw [nI_leI (by omega) (by omega)] at c_47
                have ee : e = 12 := by omega
                subst ee
                rw [mJq.aq hJ1 w (fun z hz => by have := jqs_code _ _ z hz; omega)]
                exact hq _ hm1
              · rw [nI_leI (by omega) (by omega)] at c_47
                refine J_aload_n (i := 0) (n := 51) dX7_drop_50 rfl rfl rfl ?_
                refine J_callVx (n := 54) wS_X7_starts (c_M_starts (Q := fun r h => r = none ∧ ∃ v2, mN v2 S.1.1 ∧ mF v1 v2 ∧ h = hp G (gs_set σ 7 0 v2)) (d + 11) (fun v2 k1 _ k3 k4 => ⟨rfl, v2, ⟨hm1.1.1.ext hB k1, by rw [k4]; exact hm1.1.2.2⟩, ⟨k3, k4, k1⟩, rfl⟩)) dX7_drop_51 wm_X7_201 ⟨wM_X7_starts, wV_X7_starts⟩ rfl (T_recv (by decide) (by first | assumption | decide)) rfl rfl (Nat.le_of_ble_eq_true rfl) rfl (fun r h1 hq1 => ?_)
                obtain ⟨rfl, v2, hN2, hF2, rfl⟩ := hq1
                refine J_aload_n (i := 0) (n := 55) dX7_drop_54 rfl rfl rfl ?_
                refine J_iload_n (i := 1) (n := 56) dX7_drop_55 rfl rfl rfl ?_
                refine J_iconst (n := 57) dX7_drop_56 kI_1 rfl ?_
                refine J_iload (i := 4) (n := 59) dX7_drop_57 rfl rfl ?_
                refine J_callVv (n := 62) wS_X7_becomesOf (c_M_becomesOf (d + 11) (k := 1) _ (by omega) (by omega) ⟨rfl, rfl⟩) dX7_drop_59 wm_X7_169 ⟨wM_X7_becomesOf, wV_X7_becomesOf⟩ rfl (T_recv (by decide) (by first | assumption | decide)) rfl rfl (Nat.le_of_ble_eq_true rfl) rfl ?_
                have hQ3 := mQ.w1 v2 (upd (v2.1 1) (12 + 4 * j + 1) (nI e))
                have hv3 : (gs_w v2 1 (upd (v2.1 1) (12 + 4 * j + 1) (nI e))).2 = v2.2 := rfl
                have hN3 : mN (gs_w v2 1 (upd (v2.1 1) (12 + 4 * j + 1) (nI e))) (pw_a S.1.1 2 j e) := ⟨by rw [gs_w1]; exact hN2.1.part hB (k := 1) e hj (by decide), hN2.2⟩
                generalize gs_w v2 1 (upd (v2.1 1) (12 + 4 * j + 1) (nI e)) = v3 at hQ3 hv3 hN3 ⊢
                refine J_aload_n (i := 0) (n := 63) dX7_drop_62 rfl rfl rfl ?_
                refine J_iload (i := 4) (n := 65) dX7_drop_63 rfl rfl ?_
                refine J_aload_n (i := 0) (n := 66) dX7_drop_65 rfl rfl rfl ?_
                refine J_iload_n (i := 2) (n := 67) dX7_drop_66 rfl rfl rfl ?_
                refine J_callVx (n := 70) wS_X7_nameBehind (c_M_nameBehind (Q := fun r h => r = some (.int (nI (nb S.1.1 (pw_a S.1.1 2 j e) n))) ∧ ∃ v4, mE v3 v4 ∧ h = hp G (gs_set σ 7 0 v4)) (d + 4) hN3 (pw_a_ok hO (by omega)) (show S.1.1.2.2 10 + n < 2 ^ 30 by omega) (show v3.1 0 36 = nI (S.1.1.2.2 9) by rw [hQ3.1 0 (by decide), hF2.1 0 (by decide)]; exact hm1.1.1.2.2.2.2.2.1) (fun v4 _ k2 => ⟨by rw [nb_eq (q := (pw_a S.1.1 2 j e)) hn9 rfl n, pk_sub (by omega), Nat.add_sub_cancel_left], v4, k2, rfl⟩)) dX7_drop_67 wm_X7_236 ⟨wM_X7_nameBehind, wV_X7_nameBehind⟩ rfl (T_recv (by decide) (by first | assumption | decide)) rfl rfl (Nat.le_of_ble_eq_true rfl) rfl (fun r h1 hq1 => ?_)
                obtain ⟨rfl, v4, hE4, rfl⟩ := hq1
                refine J_callVv (n := 73) wS_X7_judges (c_M_judges (d + 11) _ _ ⟨rfl, rfl⟩) dX7_drop_70 wm_X7_261 ⟨wM_X7_judges, wV_X7_judges⟩ rfl (T_recv (by decide) (by first | assumption | decide)) rfl rfl (Nat.le_of_ble_eq_true rfl) rfl ?_
                refine J_inc (i := 4) (n := 76) (lv' := [(0, _), (1, _), (2, _), (3, _), (4, _)]) dX7_drop_73 rfl (by decide) rfl rfl ?_
                refine J_goto (tgt := 43) dX7_drop_76 (by decide) ?_
                exact ih (e + 1) _ (by omega) (by omega) (hm1.q ((hF2.q.tr hQ3).tr (hE4.q.tr (mQ.j _ _ _)))) (mJq.j (r := jqs (fun z => nb S.1.1 (pw_a S.1.1 2 j z) n) e) (by unfold mJq; rw [hE4.2.1, hv3, hF2.2.1]; exact hJ1) (Nat.lt_trans hfe (by decide)) (fun z hz => by have := hjl z hz; omega))
          exact loop 13 0 _ (by omega) (by omega) (hm.q ((mQ.f _ 18 _ (Or.inl rfl)).tr (mQ.f _ 19 _ (Or.inr rfl)))) ⟨by simp [gs_f, upd, jqs, mc], by simp [gs_f, upd, jqs, mm]⟩
        · refine J_bipush (n := 34) dX7_drop_32 kB_m2 rfl ?_
          refine J_iret dX7_drop_34 rfl (kN_i _) ?_
          rw [nb_t] at c_29
          rw [if_pos c_29] at hq
          exact hq v hm
      · refine J_iconst (n := 23) dX7_drop_22 kI_m1 rfl ?_
        refine J_iret dX7_drop_23 rfl (kN_i _) ?_
        unfold sp_drop at hq
        rw [if_neg (by
          first
          | (rw [nb_0] at c_5; rw [show isG S g = false from c_5, Bool.false_and]; decide)
          | (rw [nb_0] at c_12; rw [c_12, Bool.false_and, Bool.and_false]; decide)
          | (rw [nb_0] at c_19; rw [c_19, Bool.and_false, Bool.and_false]; decide))] at hq
        exact hq v hm

