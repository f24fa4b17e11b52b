/-! ===== the reference's numbers ===== -/
def aR (a : Nat → Int32) (p : pw) : Prop := (∀ j, j < 12 → a j = nI (p.1 0 j)) ∧ (∀ g, g < p.2.2 6 → a (12 + 4 * g + 0) = nI (p.1 1 g) ∧ (p.2.1 g = false → a (12 + 4 * g + 1) = nI (p.1 2 g)) ∧ a (12 + 4 * g + 2) = nI (p.1 3 g) ∧ a (12 + 4 * g + 3) = nI (p.2.1 g).toNat) ∧ (∀ j, j < p.2.2 7 → a (30 + j) = nI (p.1 4 j)) ∧ a 28 = nI (p.2.2 8) ∧ a 29 = nI (p.2.2 7) ∧ a 36 = nI (p.2.2 9) ∧ a 37 = nI (p.2.2 10)
/-- what is asked of the rooms: never past their ends -/
def aB (p : pw) : Prop := p.2.2 6 ≤ 4 ∧ p.2.2 7 ≤ 6
theorem pOk.aB {p : pw} (h : pOk p) : aB p := ⟨h.2.2.2.2.1, h.2.2.2.2.2.1⟩
theorem aR.put {a : Nat → Int32} {p : pw} (h : aR a p) (hB : aB p) {g k : Nat} (x : Nat) (hg : g < p.2.2 6) (hk : k = 1 ∨ k = 2) : aR (upd a (12 + 4 * g + k) (nI x)) (pw_a p (k + 1) g x) := by
  obtain ⟨h1, h2, h3, h4, h5, h6, h7⟩ := h
  obtain ⟨b1, b2⟩ := hB
  have key : ∀ j, j ≠ 12 + 4 * g + k → upd a (12 + 4 * g + k) (nI x) j = a j := fun j hj => pk_un hj
  refine ⟨fun j hj => ?_, fun g' hg' => ?_, fun j hj => ?_, ?_, ?_, ?_, ?_⟩
  · rw [key _ (by omega), h1 j hj]; simp only [pw_a]; rw [if_neg (by omega)]
  · have hg1 : g' < p.2.2 6 := hg'
    obtain ⟨c0, c1, c2, c3⟩ := h2 g' hg1
    by_cases e : g' = g
    · subst e
      rcases hk with rfl | rfl
      · refine ⟨?_, fun _ => ?_, ?_, ?_⟩
        · rw [key _ (by omega), c0]; simp [pw_a]
        · rw [pk_us]; simp [pw_a]
        · rw [key _ (by omega), c2]; simp [pw_a]
        · rw [key _ (by omega), c3]; rfl
      · refine ⟨?_, fun hp => ?_, ?_, ?_⟩
        · rw [key _ (by omega), c0]; simp [pw_a]
        · rw [key _ (by omega), c1 hp]; simp [pw_a]
        · rw [pk_us]; simp [pw_a]
        · rw [key _ (by omega), c3]; rfl
    · refine ⟨?_, fun hp => ?_, ?_, ?_⟩
      · rw [key _ (by omega), c0]; simp [pw_a, e]
      · rw [key _ (by omega), c1 hp]; simp [pw_a, e]
      · rw [key _ (by omega), c2]; simp [pw_a, e]
      · rw [key _ (by omega), c3]; rfl
  · have hj1 : j < p.2.2 7 := hj
    rw [key _ (by omega), h3 j hj1]; simp only [pw_a]; rw [if_neg (by omega)]
  · rw [key _ (by omega)]; exact h4
  · rw [key _ (by omega)]; exact h5
  · rw [key _ (by omega)]; exact h6
  · rw [key _ (by omega)]; exact h7
theorem aR.pair {a : Nat → Int32} {p : pw} (h : aR a p) (hB : aB p) {g : Nat} (b : Bool) (hg : g < p.2.2 6) (hat : b = false → a (12 + 4 * g + 1) = nI (p.1 2 g)) : aR (upd a (12 + 4 * g + 3) (nI b.toNat)) (pw_b p g b) := by
  obtain ⟨h1, h2, h3, h4, h5, h6, h7⟩ := h
  obtain ⟨b1, b2⟩ := hB
  have key : ∀ j, j ≠ 12 + 4 * g + 3 → upd a (12 + 4 * g + 3) (nI b.toNat) j = a j := fun j hj => pk_un hj
  refine ⟨fun j hj => ?_, fun g' hg' => ?_, fun j hj => ?_, ?_, ?_, ?_, ?_⟩
  · rw [key _ (by omega)]; exact h1 j hj
  · have hg1 : g' < p.2.2 6 := hg'
    obtain ⟨c0, c1, c2, c3⟩ := h2 g' hg1
    by_cases e : g' = g
    · subst e
      refine ⟨?_, fun hp => ?_, ?_, ?_⟩
      · rw [key _ (by omega)]; exact c0
      · rw [key _ (by omega)]; exact hat (by simpa [pw_b] using hp)
      · rw [key _ (by omega)]; exact c2
      · rw [pk_us]; simp [pw_b]
    · refine ⟨?_, fun hp => ?_, ?_, ?_⟩
      · rw [key _ (by omega)]; exact c0
      · rw [key _ (by omega)]; exact c1 (by simpa [pw_b, e] using hp)
      · rw [key _ (by omega)]; exact c2
      · rw [key _ (by omega), c3]; simp [pw_b, e]
  · have hj1 : j < p.2.2 7 := hj
    rw [key _ (by omega)]; exact h3 j hj1
  · rw [key _ (by omega)]; exact h4
  · rw [key _ (by omega)]; exact h5
  · rw [key _ (by omega)]; exact h6
  · rw [key _ (by omega)]; exact h7
theorem aR.stale {a : Nat → Int32} {p : pw} (h : aR a p) {g : Nat} (x : Nat) (hg : p.2.1 g = true) : aR a (pw_a p 2 g x) := by
  obtain ⟨h1, h2, h3, h4, h5, h6, h7⟩ := h
  refine ⟨fun j hj => ?_, fun g' hg' => ?_, fun j hj => ?_, h4, h5, h6, h7⟩
  · rw [h1 j hj]; simp [pw_a]
  · obtain ⟨c0, c1, c2, c3⟩ := h2 g' hg'
    refine ⟨?_, fun hp => ?_, ?_, ?_⟩
    · rw [c0]; simp [pw_a]
    · have e : g' ≠ g := fun q => by
        have hp1 : p.2.1 g' = false := hp
        rw [q, hg] at hp1
        cases hp1
      rw [c1 hp]; simp [pw_a, e]
    · rw [c2]; simp [pw_a]
    · exact c3
  · rw [h3 j hj]; simp [pw_a]
theorem aR.num {a : Nat → Int32} {p : pw} (h : aR a p) (hB : aB p) {i k : Nat} (x : Nat) (hk : (i = 28 ∧ k = 8) ∨ (i = 36 ∧ k = 9) ∨ (i = 37 ∧ k = 10)) : aR (upd a i (nI x)) (pw_f p k x) := by
  obtain ⟨h1, h2, h3, h4, h5, h6, h7⟩ := h
  obtain ⟨b1, b2⟩ := hB
  have key : ∀ j, j ≠ i → upd a i (nI x) j = a j := fun j hj => pk_un hj
  have e6 : (pw_f p k x).2.2 6 = p.2.2 6 := by rcases hk with ⟨-, rfl⟩ | ⟨-, rfl⟩ | ⟨-, rfl⟩ <;> simp [pw_f]
  have e7 : (pw_f p k x).2.2 7 = p.2.2 7 := by rcases hk with ⟨-, rfl⟩ | ⟨-, rfl⟩ | ⟨-, rfl⟩ <;> simp [pw_f]
  refine ⟨fun j hj => ?_, fun g' hg' => ?_, fun j hj => ?_, ?_, ?_, ?_, ?_⟩
  · rw [key _ (by omega)]; exact h1 j hj
  · rw [e6] at hg'
    obtain ⟨c0, c1, c2, c3⟩ := h2 g' hg'
    refine ⟨?_, fun hp => ?_, ?_, ?_⟩
    · rw [key _ (by omega)]; exact c0
    · rw [key _ (by omega)]; exact c1 hp
    · rw [key _ (by omega)]; exact c2
    · rw [key _ (by omega)]; exact c3
  · rw [e7] at hj
    rw [key _ (by omega)]; exact h3 j hj
  · rcases hk with ⟨rfl, rfl⟩ | ⟨rfl, rfl⟩ | ⟨rfl, rfl⟩
    · rw [pk_us]; simp [pw_f]
    · rw [key _ (by decide), h4]; simp [pw_f]
    · rw [key _ (by decide), h4]; simp [pw_f]
  · rw [key _ (by omega), e7]; exact h5
  · rcases hk with ⟨rfl, rfl⟩ | ⟨rfl, rfl⟩ | ⟨rfl, rfl⟩
    · rw [key _ (by decide), h6]; simp [pw_f]
    · rw [pk_us]; simp [pw_f]
    · rw [key _ (by decide), h6]; simp [pw_f]
  · rcases hk with ⟨rfl, rfl⟩ | ⟨rfl, rfl⟩ | ⟨rfl, rfl⟩
    · rw [key _ (by decide), h7]; simp [pw_f]
    · rw [key _ (by decide), h7]; simp [pw_f]
    · rw [pk_us]; simp [pw_f]
/-- the model's 'now' holds the world -/
def mN (v : gs_Ob) (p : pw) : Prop := aR (v.1 1) p ∧ v.2.1 3 = nI (p.2.2 6)
/-- all of it but 'now' below 38 is the same -/
def mE (v w : gs_Ob) : Prop := (∀ k, k ≠ 1 → w.1 k = v.1 k) ∧ w.2 = v.2 ∧ ∀ j, 38 ≤ j → w.1 1 j = v.1 1 j
theorem mE.rf (v : gs_Ob) : mE v v := ⟨fun _ _ => rfl, rfl, fun _ _ => rfl⟩
theorem mE.tr {u v w : gs_Ob} (h : mE u v) (h2 : mE v w) : mE u w := ⟨fun k hk => (h2.1 k hk).trans (h.1 k hk), h2.2.1.trans h.2.1, fun j hj => (h2.2.2 j hj).trans (h.2.2 j hj)⟩
theorem mE.w (v : gs_Ob) {i : Nat} {x : Int32} (hi : i < 38) : mE v (gs_w v 1 (upd (v.1 1) i x)) := ⟨fun k hk => by simp [gs_w, va_up, hk], rfl, fun j hj => by simp only [gs_w, va_up, if_true]; exact pk_un (by omega)⟩
/-- 'now' is st, all else is the same -/
def mF (v w : gs_Ob) : Prop := (∀ k, k ≠ 1 → w.1 k = v.1 k) ∧ w.2 = v.2 ∧ ∀ q, q < 57 → w.1 1 q = v.1 0 q
theorem gs_w1 (v : gs_Ob) (f : Nat → Int32) : (gs_w v 1 f).1 1 = f := by simp [gs_w, va_up]
theorem lc_lt (x y : Int64) : lg_cmp x y < 0 ↔ x < y := by
  unfold lg_cmp
  by_cases h1 : x > y
  · rw [if_pos h1]; exact ⟨fun q => absurd q (by decide +kernel), fun q => absurd h1 (Int64.not_lt.mpr (Int64.le_of_lt q))⟩
  · rw [if_neg h1]
    by_cases h2 : x = y
    · rw [if_pos h2]; exact ⟨fun q => absurd q (by decide +kernel), fun q => absurd q (by rw [h2]; exact Int64.lt_irrefl)⟩
    · rw [if_neg h2]; exact ⟨fun _ => by
        rcases Int64.lt_or_le x y with q | q
        · exact q
        · exact absurd (Int64.lt_of_le_of_ne q (Ne.symm h2)) h1, fun _ => by decide +kernel⟩
theorem lc_gt (x y : Int64) : 0 < lg_cmp x y ↔ y < x := by
  unfold lg_cmp
  by_cases h1 : x > y
  · rw [if_pos h1]; exact ⟨fun _ => h1, fun _ => by decide +kernel⟩
  · rw [if_neg h1]
    by_cases h2 : x = y
    · rw [if_pos h2]; exact ⟨fun q => absurd q (by decide +kernel), fun q => absurd q h1⟩
    · rw [if_neg h2]; exact ⟨fun q => absurd q (by decide +kernel), fun q => absurd q h1⟩
theorem l_lt (v w : Int32) : v.toInt64 < w.toInt64 ↔ v < w := by rw [Int64.lt_iff_toInt_lt, Int32.lt_iff_toInt_lt, Int32.toInt_toInt64, Int32.toInt_toInt64]
theorem df_all : ∀ a, a < 7 → ∀ b, b < 7 → ((nI a - nI b ≤ 0) ↔ a ≤ b) ∧ ((0 ≤ nI a - nI b) ↔ b ≤ a) := by decide +kernel
theorem st2_all : ∀ a, a < 12 → nI a + nI 2 - (nI a + nI 2) / nI 12 * nI 12 = nI ((a + 2) % 12) := by decide +kernel
set_option maxHeartbeats 4000000 in
set_option maxRecDepth 100000 in
theorem c_M_in {G : gx_G} {h : gx_Hp} {Q : Option Value → gx_Hp → Prop} (d : Nat) (v : Int32) (n : Nat) (hn : n < 2 ^ 31) (hq : Q (some (.int (nI (ix_in v n).toNat))) h) : gx_K G yX7_in mX7_in d 0 0 [.long v.toInt64, .long (lN 0), .long (lN n)] h Q := by
  have g0 : v.toInt64 < lN 0 ↔ v < 0 := by rw [← nI_l (by decide), l_lt]; exact Iff.rfl
  have g1 : lN n < v.toInt64 ↔ nI n < v := by rw [← nI_l hn, l_lt]
  refine gx_K.of' (lv := [(0, _), (2, _), (4, _)]) (by decide) rfl (by decide) (Nat.le_of_ble_eq_true rfl) rfl ?_
  refine J_lload_n (i := 0) (n := 1) dX7_in_0 rfl rfl rfl ?_
  refine J_lload_n (i := 2) (n := 2) dX7_in_1 rfl rfl rfl ?_
  refine J_lcmp (n := 3) dX7_in_2 rfl ?_
  refine J_if_lt (tgt := 17) (n := 6) dX7_in_3 (by decide) rfl (fun c_3 => ?_) (fun c_3 => ?_)
  · refine J_iconst (n := 18) dX7_in_17 kI_0 rfl ?_
    refine J_iret dX7_in_18 rfl (by first | exact kN_0 | exact kN_1) ?_
    rw [lc_lt, g0] at c_3
    try rw [lc_gt, g1] at c_10
    unfold ix_in at hq
    first
    | (rw [decide_eq_false (Classical.not_not.mpr c_3)] at hq; exact hq)
    | (rw [decide_eq_true c_3, decide_eq_false (Classical.not_not.mpr c_10)] at hq; exact hq)
    | (rw [decide_eq_true c_3, decide_eq_true c_10] at hq; exact hq)
  · refine J_lload_n (i := 0) (n := 7) dX7_in_6 rfl rfl rfl ?_
    refine J_lload (i := 4) (n := 9) dX7_in_7 rfl rfl ?_
    refine J_lcmp (n := 10) dX7_in_9 rfl ?_
    refine J_if_gt (tgt := 17) (n := 13) dX7_in_10 (by decide) rfl (fun c_10 => ?_) (fun c_10 => ?_)
    · refine J_iconst (n := 18) dX7_in_17 kI_0 rfl ?_
      refine J_iret dX7_in_18 rfl (by first | exact kN_0 | exact kN_1) ?_
      rw [lc_lt, g0] at c_3
      try rw [lc_gt, g1] at c_10
      unfold ix_in at hq
      first
      | (rw [decide_eq_false (Classical.not_not.mpr c_3)] at hq; exact hq)
      | (rw [decide_eq_true c_3, decide_eq_false (Classical.not_not.mpr c_10)] at hq; exact hq)
      | (rw [decide_eq_true c_3, decide_eq_true c_10] at hq; exact hq)
    · refine J_iconst (n := 14) dX7_in_13 kI_1 rfl ?_
      refine J_goto (tgt := 18) dX7_in_14 (by decide) ?_
      refine J_iret dX7_in_18 rfl (by first | exact kN_0 | exact kN_1) ?_
      rw [lc_lt, g0] at c_3
      try rw [lc_gt, g1] at c_10
      unfold ix_in at hq
      first
      | (rw [decide_eq_false (Classical.not_not.mpr c_3)] at hq; exact hq)
      | (rw [decide_eq_true c_3, decide_eq_false (Classical.not_not.mpr c_10)] at hq; exact hq)
      | (rw [decide_eq_true c_3, decide_eq_true c_10] at hq; exact hq)

set_option maxHeartbeats 4000000 in
set_option maxRecDepth 100000 in
theorem c_M_in1 {G : gx_G} {h : gx_Hp} {Q : Option Value → gx_Hp → Prop} (d : Nat) (v : Int32) (n : Nat) (hn : n < 2 ^ 31) (hq : Q (some (.int (nI (!decide (n = 0) && ix_in v (n - 1)).toNat))) h) : gx_K G yX7_in mX7_in d 0 0 [.long v.toInt64, .long (lN 0), .long (nI n - nI 1).toInt64] h Q := by
  have g0 : v.toInt64 < lN 0 ↔ v < 0 := by rw [← nI_l (by decide), l_lt]; exact Iff.rfl
  have e0 : n = 0 → nI n - nI 1 = -1 := fun q => by rw [q]; decide +kernel
  have e1 : n ≠ 0 → nI n - nI 1 = nI (n - 1) := fun q => pk_sub (by omega)
  refine gx_K.of' (lv := [(0, _), (2, _), (4, _)]) (by decide) rfl (by decide) (Nat.le_of_ble_eq_true rfl) rfl ?_
  refine J_lload_n (i := 0) (n := 1) dX7_in_0 rfl rfl rfl ?_
  refine J_lload_n (i := 2) (n := 2) dX7_in_1 rfl rfl rfl ?_
  refine J_lcmp (n := 3) dX7_in_2 rfl ?_
  refine J_if_lt (tgt := 17) (n := 6) dX7_in_3 (by decide) rfl (fun c_3 => ?_) (fun c_3 => ?_)
  · refine J_iconst (n := 18) dX7_in_17 kI_0 rfl ?_
    refine J_iret dX7_in_18 rfl (by first | exact kN_0 | exact kN_1) ?_
    rw [lc_lt, g0] at c_3
    try rw [lc_gt, l_lt] at c_10
    unfold ix_in at hq
    by_cases hz : n = 0
    · rw [decide_eq_true hz] at hq
      try rw [e0 hz] at c_10
      first | exact hq | exact absurd (Int32.lt_of_lt_of_le (by decide +kernel : (-1 : Int32) < 0) (Int32.not_lt.mp c_3)) c_10
    · rw [decide_eq_false hz] at hq
      try rw [e1 hz] at c_10
      first
      | (rw [decide_eq_false (Classical.not_not.mpr c_3)] at hq; exact hq)
      | (rw [decide_eq_true c_3, decide_eq_false (Classical.not_not.mpr c_10)] at hq; exact hq)
      | (rw [decide_eq_true c_3, decide_eq_true c_10] at hq; exact hq)
  · refine J_lload_n (i := 0) (n := 7) dX7_in_6 rfl rfl rfl ?_
    refine J_lload (i := 4) (n := 9) dX7_in_7 rfl rfl ?_
    refine J_lcmp (n := 10) dX7_in_9 rfl ?_
    refine J_if_gt (tgt := 17) (n := 13) dX7_in_10 (by decide) rfl (fun c_10 => ?_) (fun c_10 => ?_)
    · refine J_iconst (n := 18) dX7_in_17 kI_0 rfl ?_
      refine J_iret dX7_in_18 rfl (by first | exact kN_0 | exact kN_1) ?_
      rw [lc_lt, g0] at c_3
      try rw [lc_gt, l_lt] at c_10
      unfold ix_in at hq
      by_cases hz : n = 0
      · rw [decide_eq_true hz] at hq
        try rw [e0 hz] at c_10
        first | exact hq | exact absurd (Int32.lt_of_lt_of_le (by decide +kernel : (-1 : Int32) < 0) (Int32.not_lt.mp c_3)) c_10
      · rw [decide_eq_false hz] at hq
        try rw [e1 hz] at c_10
        first
        | (rw [decide_eq_false (Classical.not_not.mpr c_3)] at hq; exact hq)
        | (rw [decide_eq_true c_3, decide_eq_false (Classical.not_not.mpr c_10)] at hq; exact hq)
        | (rw [decide_eq_true c_3, decide_eq_true c_10] at hq; exact hq)
    · refine J_iconst (n := 14) dX7_in_13 kI_1 rfl ?_
      refine J_goto (tgt := 18) dX7_in_14 (by decide) ?_
      refine J_iret dX7_in_18 rfl (by first | exact kN_0 | exact kN_1) ?_
      rw [lc_lt, g0] at c_3
      try rw [lc_gt, l_lt] at c_10
      unfold ix_in at hq
      by_cases hz : n = 0
      · rw [decide_eq_true hz] at hq
        try rw [e0 hz] at c_10
        first | exact hq | exact absurd (Int32.lt_of_lt_of_le (by decide +kernel : (-1 : Int32) < 0) (Int32.not_lt.mp c_3)) c_10
      · rw [decide_eq_false hz] at hq
        try rw [e1 hz] at c_10
        first
        | (rw [decide_eq_false (Classical.not_not.mpr c_3)] at hq; exact hq)
        | (rw [decide_eq_true c_3, decide_eq_false (Classical.not_not.mpr c_10)] at hq; exact hq)
        | (rw [decide_eq_true c_3, decide_eq_true c_10] at hq; exact hq)

set_option maxHeartbeats 4000000 in
set_option maxRecDepth 100000 in
theorem c_M_flag {G : gx_G} {h : gx_Hp} {Q : Option Value → gx_Hp → Prop} (d : Nat) (b : Bool) (hq : Q (some (.int (nI b.toNat))) h) : gx_K G yX7_flag mX7_flag d 0 0 [.int (nI b.toNat)] h Q := by
  refine gx_K.of' (lv := [(0, _)]) (by decide) rfl (by decide) (Nat.le_of_ble_eq_true rfl) rfl ?_
  refine J_iload_n (i := 0) (n := 1) dX7_flag_0 rfl rfl rfl ?_
  refine J_if_eq (tgt := 8) (n := 4) dX7_flag_1 (by decide) rfl (fun c_1 => ?_) (fun c_1 => ?_)
  · refine J_iconst (n := 9) dX7_flag_8 kI_0 rfl ?_
    refine J_iret dX7_flag_9 rfl (kN_i _) ?_
    first
    | (rw [(nb_0 b).mp c_1] at hq; exact hq)
    | (rw [(nb_t b).mp c_1] at hq; exact hq)
  · refine J_iconst (n := 5) dX7_flag_4 kI_1 rfl ?_
    refine J_goto (tgt := 9) dX7_flag_5 (by decide) ?_
    refine J_iret dX7_flag_9 rfl (kN_i _) ?_
    first
    | (rw [(nb_0 b).mp c_1] at hq; exact hq)
    | (rw [(nb_t b).mp c_1] at hq; exact hq)

set_option maxHeartbeats 4000000 in
set_option maxRecDepth 100000 in
theorem c_M_lesser {G : gx_G} {h : gx_Hp} {Q : Option Value → gx_Hp → Prop} (d : Nat) {a b : Nat} (ha : a < 2 ^ 31) (hb : b < 2 ^ 31) (hq : Q (some (.int (nI (min a b)))) h) : gx_K G yX7_lesser mX7_lesser d 0 0 [.int (nI a), .int (nI b)] h Q := by
  refine gx_K.of' (lv := [(0, _), (1, _)]) (by decide) rfl (by decide) (Nat.le_of_ble_eq_true rfl) rfl ?_
  refine J_iload_n (i := 0) (n := 1) dX7_lesser_0 rfl rfl rfl ?_
  refine J_iload_n (i := 1) (n := 2) dX7_lesser_1 rfl rfl rfl ?_
  refine J_icmp_ge (tgt := 9) (n := 5) dX7_lesser_2 (by decide) rfl (fun c_2 => ?_) (fun c_2 => ?_)
  · refine J_iload_n (i := 1) (n := 10) dX7_lesser_9 rfl rfl rfl ?_
    refine J_iret dX7_lesser_10 rfl (kN_i _) ?_
    rw [nI_leI (by omega) (by omega)] at c_2
    first
    | (rw [Nat.min_eq_right (by omega)] at hq; exact hq)
    | (rw [Nat.min_eq_left (by omega)] at hq; exact hq)
  · refine J_iload_n (i := 0) (n := 6) dX7_lesser_5 rfl rfl rfl ?_
    refine J_goto (tgt := 10) dX7_lesser_6 (by decide) ?_
    refine J_iret dX7_lesser_10 rfl (kN_i _) ?_
    rw [nI_leI (by omega) (by omega)] at c_2
    first
    | (rw [Nat.min_eq_right (by omega)] at hq; exact hq)
    | (rw [Nat.min_eq_left (by omega)] at hq; exact hq)

set_option maxHeartbeats 4000000 in
set_option maxRecDepth 100000 in
theorem c_M_of {G : gx_G} {σ : gs_S} {Q : Option Value → gx_Hp → Prop} (d : Nat) {j k : Nat} (hj : j < 4) (hk : k < 4) (hq : Q (some (.int ((σ 7 0).1 1 (12 + 4 * j + k)))) (hp G σ)) : gx_K G yX7_of mX7_of d 0 0 [.ref (gs_a G 7 0 0), .int (nI j), .int (nI k)] (hp G σ) Q := by
  refine gx_K.of' (lv := [(0, _), (1, _), (2, _)]) (by decide) rfl (by decide) (Nat.le_of_ble_eq_true rfl) rfl ?_
  refine J_aload_n (i := 0) (n := 1) dX7_of_0 rfl rfl rfl ?_
  refine T_getO (k := 1) (n := 4) wk_X7 dX7_of_1 wf_X7_13 (by decide) (by first | assumption | decide) rfl rfl ?_
  refine J_bipush (n := 6) dX7_of_4 kB_12 rfl ?_
  refine J_iconst (n := 7) dX7_of_6 kI_4 rfl ?_
  refine J_iload_n (i := 1) (n := 8) dX7_of_7 rfl rfl rfl ?_
  refine J_imul (n := 9) dX7_of_8 rfl ?_
  refine J_iadd (n := 10) dX7_of_9 rfl ?_
  refine J_iload_n (i := 2) (n := 11) dX7_of_10 rfl rfl rfl ?_
  refine J_iadd (n := 12) dX7_of_11 rfl ?_
  rw [pk_mul, nI_add, nI_add]
  refine T_ialdO (c := 7) (k := 1) (N := 57) (n := 13) dX7_of_12 (by decide) (by first | assumption | decide) rfl (vp_in_nI (by omega) (by decide)) rfl ?_
  refine J_iret dX7_of_13 rfl (kN_i _) ?_
  rw [nI_clamp (by omega)]
  exact hq

set_option maxHeartbeats 4000000 in
set_option maxRecDepth 100000 in
theorem c_M_becomesOf {G : gx_G} {σ : gs_S} {Q : Option Value → gx_Hp → Prop} {v : gs_Ob} (d : Nat) {j k : Nat} (x : Int32) (hj : j < 4) (hk : k < 4) (hq : Q none (hp G (gs_set σ 7 0 (gs_w v 1 (upd (v.1 1) (12 + 4 * j + k) x))))) : gx_K G yX7_becomesOf mX7_becomesOf d 0 0 [.ref (gs_a G 7 0 0), .int (nI j), .int (nI k), .int x] (hp G (gs_set σ 7 0 v)) Q := by
  refine gx_K.of' (lv := [(0, _), (1, _), (2, _), (3, _)]) (by decide) rfl (by decide) (Nat.le_of_ble_eq_true rfl) rfl ?_
  refine J_aload_n (i := 0) (n := 1) dX7_becomesOf_0 rfl rfl rfl ?_
  refine T_get (k := 1) (n := 4) wk_X7 dX7_becomesOf_1 wf_X7_13 (by decide) (by first | assumption | decide) rfl rfl ?_
  refine J_bipush (n := 6) dX7_becomesOf_4 kB_12 rfl ?_
  refine J_iconst (n := 7) dX7_becomesOf_6 kI_4 rfl ?_
  refine J_iload_n (i := 1) (n := 8) dX7_becomesOf_7 rfl rfl rfl ?_
  refine J_imul (n := 9) dX7_becomesOf_8 rfl ?_
  refine J_iadd (n := 10) dX7_becomesOf_9 rfl ?_
  refine J_iload_n (i := 2) (n := 11) dX7_becomesOf_10 rfl rfl rfl ?_
  refine J_iadd (n := 12) dX7_becomesOf_11 rfl ?_
  rw [pk_mul, nI_add, nI_add]
  refine J_iload_n (i := 3) (n := 13) dX7_becomesOf_12 rfl rfl rfl ?_
  refine T_iast (c := 7) (k := 1) (N := 57) (n := 14) dX7_becomesOf_13 (by decide) (by first | assumption | decide) (fun _ => rfl) (vp_in_nI (by omega) (by decide)) rfl ?_
  refine J_vret dX7_becomesOf_14 rfl ?_
  rw [nI_clamp (by omega)]
  exact hq

set_option maxHeartbeats 4000000 in
set_option maxRecDepth 100000 in
theorem c_M_isPaired {G : gx_G} {σ : gs_S} {Q : Option Value → gx_Hp → Prop} {p : pw} (d : Nat) {j : Nat} (hm : mN (σ 7 0) p) (hB : aB p) (hj : j < p.2.2 6) (hq : Q (some (.int (nI (p.2.1 j).toNat))) (hp G σ)) : gx_K G yX7_isPaired mX7_isPaired (d + 1) 0 0 [.ref (gs_a G 7 0 0), .int (nI j)] (hp G σ) Q := by
  have h4 : p.2.2 6 ≤ 4 := hB.1
  have e3 := (hm.1.2.1 j hj).2.2.2
  refine gx_K.of' (lv := [(0, _), (1, _)]) (by decide) rfl (by decide) (Nat.le_of_ble_eq_true rfl) rfl ?_
  refine J_aload_n (i := 0) (n := 1) dX7_isPaired_0 rfl rfl rfl ?_
  refine J_iload_n (i := 1) (n := 2) dX7_isPaired_1 rfl rfl rfl ?_
  refine J_iconst (n := 3) dX7_isPaired_2 kI_3 rfl ?_
  refine J_callVr (n := 6) wS_X7_of (c_M_of d (j := j) (k := 3) (by omega) (by omega) ⟨rfl, rfl⟩) dX7_isPaired_3 wm_X7_154 ⟨wM_X7_of, wV_X7_of⟩ rfl (T_recv (by decide) (by first | assumption | decide)) rfl rfl (Nat.le_of_ble_eq_true rfl) rfl ?_
  rw [e3]
  refine J_iconst (n := 7) dX7_isPaired_6 kI_1 rfl ?_
  refine J_icmp_ne (tgt := 14) (n := 10) dX7_isPaired_7 (by decide) rfl (fun c_7 => ?_) (fun c_7 => ?_)
  · refine J_iconst (n := 15) dX7_isPaired_14 kI_0 rfl ?_
    refine J_iret dX7_isPaired_15 rfl (by first | exact kN_0 | exact kN_1) ?_
    cases e : p.2.1 j with
    | true => rw [e] at c_7 hq; first | exact hq | exact absurd rfl c_7
    | false => rw [e] at c_7 hq; first | exact hq | exact absurd c_7 (by decide +kernel)
  · refine J_iconst (n := 11) dX7_isPaired_10 kI_1 rfl ?_
    refine J_goto (tgt := 15) dX7_isPaired_11 (by decide) ?_
    refine J_iret dX7_isPaired_15 rfl (by first | exact kN_0 | exact kN_1) ?_
    cases e : p.2.1 j with
    | true => rw [e] at c_7 hq; first | exact hq | exact absurd rfl c_7
    | false => rw [e] at c_7 hq; first | exact hq | exact absurd c_7 (by decide +kernel)

set_option maxHeartbeats 4000000 in
set_option maxRecDepth 100000 in
theorem c_M_isCold {G : gx_G} {σ : gs_S} {Q : Option Value → gx_Hp → Prop} {p : pw} (d : Nat) {j : Nat} (hm : mN (σ 7 0) p) (hO : pOk p) (hj : j < p.2.2 6) (hq : Q (some (.int (nI (pw_cold p j).toNat))) (hp G σ)) : gx_K G yX7_isCold mX7_isCold (d + 2) 0 0 [.ref (gs_a G 7 0 0), .int (nI j)] (hp G σ) Q := by
  have hB := hO.aB
  have h4 : p.2.2 6 ≤ 4 := hB.1
  have e2 := (hm.1.2.1 j hj).2.2.1
  have hw20 := (hO.2.1 j hj).2.2
  unfold pw_cold at hq
  refine gx_K.of' (lv := [(0, _), (1, _)]) (by decide) rfl (by decide) (Nat.le_of_ble_eq_true rfl) rfl ?_
  refine J_aload_n (i := 0) (n := 1) dX7_isCold_0 rfl rfl rfl ?_
  refine J_iload_n (i := 1) (n := 2) dX7_isCold_1 rfl rfl rfl ?_
  refine J_callVr (n := 5) wS_X7_isPaired (c_M_isPaired d hm hB hj ⟨rfl, rfl⟩) dX7_isCold_2 wm_X7_157 ⟨wM_X7_isPaired, wV_X7_isPaired⟩ rfl (T_recv (by decide) (by first | assumption | decide)) rfl rfl (Nat.le_of_ble_eq_true rfl) rfl ?_
  refine J_if_ne (tgt := 21) (n := 8) dX7_isCold_5 (by decide) rfl (fun c_5 => ?_) (fun c_5 => ?_)
  · refine J_iconst (n := 22) dX7_isCold_21 kI_0 rfl ?_
    refine J_iret dX7_isCold_22 rfl (by first | exact kN_0 | exact kN_1) ?_
    first
    | (rw [pc_p c_5, Bool.not_true, Bool.and_false] at hq; exact hq)
    | (rw [nb_0] at c_5
       rw [c_5] at hq
       rw [nI_k0 (by omega)] at c_14
       first
       | (rw [decide_eq_true c_14] at hq; exact hq)
       | (rw [decide_eq_false c_14] at hq; exact hq))
  · refine J_aload_n (i := 0) (n := 9) dX7_isCold_8 rfl rfl rfl ?_
    refine J_iload_n (i := 1) (n := 10) dX7_isCold_9 rfl rfl rfl ?_
    refine J_iconst (n := 11) dX7_isCold_10 kI_2 rfl ?_
    refine J_callVr (n := 14) wS_X7_of (c_M_of (d + 1) (j := j) (k := 2) (by omega) (by omega) ⟨rfl, rfl⟩) dX7_isCold_11 wm_X7_154 ⟨wM_X7_of, wV_X7_of⟩ rfl (T_recv (by decide) (by first | assumption | decide)) rfl rfl (Nat.le_of_ble_eq_true rfl) rfl ?_
    rw [e2]
    refine J_if_ne (tgt := 21) (n := 17) dX7_isCold_14 (by decide) rfl (fun c_14 => ?_) (fun c_14 => ?_)
    · refine J_iconst (n := 22) dX7_isCold_21 kI_0 rfl ?_
      refine J_iret dX7_isCold_22 rfl (by first | exact kN_0 | exact kN_1) ?_
      first
      | (rw [pc_p c_5, Bool.not_true, Bool.and_false] at hq; exact hq)
      | (rw [nb_0] at c_5
         rw [c_5] at hq
         rw [nI_k0 (by omega)] at c_14
         first
         | (rw [decide_eq_true c_14] at hq; exact hq)
         | (rw [decide_eq_false c_14] at hq; exact hq))
    · refine J_iconst (n := 18) dX7_isCold_17 kI_1 rfl ?_
      refine J_goto (tgt := 22) dX7_isCold_18 (by decide) ?_
      refine J_iret dX7_isCold_22 rfl (by first | exact kN_0 | exact kN_1) ?_
      first
      | (rw [pc_p c_5, Bool.not_true, Bool.and_false] at hq; exact hq)
      | (rw [nb_0] at c_5
         rw [c_5] at hq
         rw [nI_k0 (by omega)] at c_14
         first
         | (rw [decide_eq_true c_14] at hq; exact hq)
         | (rw [decide_eq_false c_14] at hq; exact hq))

set_option maxHeartbeats 4000000 in
set_option maxRecDepth 100000 in
theorem c_M_doorOf {G : gx_G} {σ : gs_S} {Q : Option Value → gx_Hp → Prop} {p : pw} (d : Nat) {j : Nat} (hm : mN (σ 7 0) p) (hB : aB p) (hj : j < p.2.2 6) (hat : p.2.1 j = true → p.1 2 j = p.2.2 8) (hq : Q (some (.int (nI (p.1 2 j)))) (hp G σ)) : gx_K G yX7_doorOf mX7_doorOf (d + 2) 0 0 [.ref (gs_a G 7 0 0), .int (nI j)] (hp G σ) Q := by
  have h4 : p.2.2 6 ≤ 4 := hB.1
  have e1 := (hm.1.2.1 j hj).2.1
  have e28 := hm.1.2.2.2.1
  refine gx_K.of' (lv := [(0, _), (1, _)]) (by decide) rfl (by decide) (Nat.le_of_ble_eq_true rfl) rfl ?_
  refine J_aload_n (i := 0) (n := 1) dX7_doorOf_0 rfl rfl rfl ?_
  refine J_iload_n (i := 1) (n := 2) dX7_doorOf_1 rfl rfl rfl ?_
  refine J_callVr (n := 5) wS_X7_isPaired (c_M_isPaired d hm hB hj ⟨rfl, rfl⟩) dX7_doorOf_2 wm_X7_157 ⟨wM_X7_isPaired, wV_X7_isPaired⟩ rfl (T_recv (by decide) (by first | assumption | decide)) rfl rfl (Nat.le_of_ble_eq_true rfl) rfl ?_
  refine J_if_eq (tgt := 18) (n := 8) dX7_doorOf_5 (by decide) rfl (fun c_5 => ?_) (fun c_5 => ?_)
  · refine J_aload_n (i := 0) (n := 19) dX7_doorOf_18 rfl rfl rfl ?_
    refine J_iload_n (i := 1) (n := 20) dX7_doorOf_19 rfl rfl rfl ?_
    refine J_iconst (n := 21) dX7_doorOf_20 kI_1 rfl ?_
    refine J_callVr (n := 24) wS_X7_of (c_M_of (d + 1) (j := j) (k := 1) (by omega) (by omega) ⟨rfl, rfl⟩) dX7_doorOf_21 wm_X7_154 ⟨wM_X7_of, wV_X7_of⟩ rfl (T_recv (by decide) (by first | assumption | decide)) rfl rfl (Nat.le_of_ble_eq_true rfl) rfl ?_
    try rw [e1 ((nb_0 _).mp c_5)]
    refine J_iret dX7_doorOf_24 rfl (kN_i _) ?_
    exact hq
  · refine J_aload_n (i := 0) (n := 9) dX7_doorOf_8 rfl rfl rfl ?_
    refine T_getO (k := 1) (n := 12) wk_X7 dX7_doorOf_9 wf_X7_13 (by decide) (by first | assumption | decide) rfl rfl ?_
    refine J_bipush (n := 14) dX7_doorOf_12 kB_28 rfl ?_
    refine T_ialdO (c := 7) (k := 1) (N := 57) (n := 15) dX7_doorOf_14 (by decide) (by first | assumption | decide) rfl (vp_in_nI (by decide) (by decide)) rfl ?_
    rw [nI_clamp (by decide), e28, ← hat (pc_p c_5)]
    refine J_goto (tgt := 24) dX7_doorOf_15 (by decide) ?_
    try rw [e1 ((nb_0 _).mp c_5)]
    refine J_iret dX7_doorOf_24 rfl (kN_i _) ?_
    exact hq

set_option maxHeartbeats 4000000 in
set_option maxRecDepth 100000 in
theorem c_M_apart {G : gx_G} {h : gx_Hp} {Q : Option Value → gx_Hp → Prop} (d : Nat) {a b : Nat} (ha : a < 12) (hb : b < 12) (hq : Q (some (.int (nI (pw_far a b)))) h) : gx_K G yX7_apart mX7_apart d 0 0 [.int (nI a), .int (nI b)] h Q := by
  refine gx_K.of' (lv := [(0, _), (1, _)]) (by decide) rfl (by decide) (Nat.le_of_ble_eq_true rfl) rfl ?_
  refine J_iload_n (i := 0) (n := 1) dX7_apart_0 rfl rfl rfl ?_
  refine J_iload_n (i := 1) (n := 2) dX7_apart_1 rfl rfl rfl ?_
  refine J_icmp_le (tgt := 11) (n := 5) dX7_apart_2 (by decide) rfl (fun c_2 => ?_) (fun c_2 => ?_)
  · rw [nI_leI (by omega) (by omega)] at c_2
    refine J_iload_n (i := 1) (n := 12) dX7_apart_11 rfl rfl rfl ?_
    refine J_iload_n (i := 0) (n := 13) dX7_apart_12 rfl rfl rfl ?_
    refine J_isub (n := 14) dX7_apart_13 rfl ?_
    try rw [pk_sub (by omega)]
    refine J_istore_n (i := 2) (n := 15) (lv' := [(0, _), (1, _), (2, _)]) dX7_apart_14 rfl (by decide) rfl rfl ?_
    refine J_iload_n (i := 2) (n := 16) dX7_apart_15 rfl rfl rfl ?_
    refine J_bipush (n := 18) dX7_apart_16 kB_12 rfl ?_
    refine J_iload_n (i := 2) (n := 19) dX7_apart_18 rfl rfl rfl ?_
    refine J_isub (n := 20) dX7_apart_19 rfl ?_
    rw [pk_sub (by omega)]
    refine J_icmp_le (tgt := 30) (n := 23) dX7_apart_20 (by decide) rfl (fun c_20 => ?_) (fun c_20 => ?_)
    · rw [nI_leI (by omega) (by omega)] at c_20
      refine J_iload_n (i := 2) (n := 31) dX7_apart_30 rfl rfl rfl ?_
      refine J_iret dX7_apart_31 rfl (kN_i _) ?_
      unfold pw_far at hq
      first
      | (rw [if_pos (by omega : a ≤ b)] at hq; first | (rw [if_pos (by omega)] at hq; exact hq) | (rw [if_neg (by omega)] at hq; exact hq))
      | (rw [if_neg (by omega : ¬ a ≤ b)] at hq; first | (rw [if_pos (by omega)] at hq; exact hq) | (rw [if_neg (by omega)] at hq; exact hq))
    · rw [nI_leI (by omega) (by omega)] at c_20
      refine J_bipush (n := 25) dX7_apart_23 kB_12 rfl ?_
      refine J_iload_n (i := 2) (n := 26) dX7_apart_25 rfl rfl rfl ?_
      refine J_isub (n := 27) dX7_apart_26 rfl ?_
      rw [pk_sub (by omega)]
      refine J_goto (tgt := 31) dX7_apart_27 (by decide) ?_
      refine J_iret dX7_apart_31 rfl (kN_i _) ?_
      unfold pw_far at hq
      first
      | (rw [if_pos (by omega : a ≤ b)] at hq; first | (rw [if_pos (by omega)] at hq; exact hq) | (rw [if_neg (by omega)] at hq; exact hq))
      | (rw [if_neg (by omega : ¬ a ≤ b)] at hq; first | (rw [if_pos (by omega)] at hq; exact hq) | (rw [if_neg (by omega)] at hq; exact hq))
  · rw [nI_leI (by omega) (by omega)] at c_2
    refine J_iload_n (i := 0) (n := 6) dX7_apart_5 rfl rfl rfl ?_
    refine J_iload_n (i := 1) (n := 7) dX7_apart_6 rfl rfl rfl ?_
    refine J_isub (n := 8) dX7_apart_7 rfl ?_
    rw [pk_sub (by omega)]
    refine J_goto (tgt := 14) dX7_apart_8 (by decide) ?_
    try rw [pk_sub (by omega)]
    refine J_istore_n (i := 2) (n := 15) (lv' := [(0, _), (1, _), (2, _)]) dX7_apart_14 rfl (by decide) rfl rfl ?_
    refine J_iload_n (i := 2) (n := 16) dX7_apart_15 rfl rfl rfl ?_
    refine J_bipush (n := 18) dX7_apart_16 kB_12 rfl ?_
    refine J_iload_n (i := 2) (n := 19) dX7_apart_18 rfl rfl rfl ?_
    refine J_isub (n := 20) dX7_apart_19 rfl ?_
    rw [pk_sub (by omega)]
    refine J_icmp_le (tgt := 30) (n := 23) dX7_apart_20 (by decide) rfl (fun c_20 => ?_) (fun c_20 => ?_)
    · rw [nI_leI (by omega) (by omega)] at c_20
      refine J_iload_n (i := 2) (n := 31) dX7_apart_30 rfl rfl rfl ?_
      refine J_iret dX7_apart_31 rfl (kN_i _) ?_
      unfold pw_far at hq
      first
      | (rw [if_pos (by omega : a ≤ b)] at hq; first | (rw [if_pos (by omega)] at hq; exact hq) | (rw [if_neg (by omega)] at hq; exact hq))
      | (rw [if_neg (by omega : ¬ a ≤ b)] at hq; first | (rw [if_pos (by omega)] at hq; exact hq) | (rw [if_neg (by omega)] at hq; exact hq))
    · rw [nI_leI (by omega) (by omega)] at c_20
      refine J_bipush (n := 25) dX7_apart_23 kB_12 rfl ?_
      refine J_iload_n (i := 2) (n := 26) dX7_apart_25 rfl rfl rfl ?_
      refine J_isub (n := 27) dX7_apart_26 rfl ?_
      rw [pk_sub (by omega)]
      refine J_goto (tgt := 31) dX7_apart_27 (by decide) ?_
      refine J_iret dX7_apart_31 rfl (kN_i _) ?_
      unfold pw_far at hq
      first
      | (rw [if_pos (by omega : a ≤ b)] at hq; first | (rw [if_pos (by omega)] at hq; exact hq) | (rw [if_neg (by omega)] at hq; exact hq))
      | (rw [if_neg (by omega : ¬ a ≤ b)] at hq; first | (rw [if_pos (by omega)] at hq; exact hq) | (rw [if_neg (by omega)] at hq; exact hq))

