theorem coh_glove {p : pw} {g : Nat} (h : ∀ j, j < g → p.2.1 j = true → p.1 2 j = p.2.2 8) : ∀ j, j < g + 1 → (pw_glove p g).2.1 j = true → (pw_glove p g).1 2 j = (pw_glove p g).2.2 8 := by
  intro j hj
  unfold pw_glove
  by_cases hb : p.2.1 g = true
  · rw [if_pos hb]
    intro h1
    simp only [pw_a] at h1 ⊢
    by_cases e : j = g
    · simp [e]
    · simp [e]; exact h j (by omega) h1
  · rw [if_neg hb]
    by_cases hz : p.1 3 g = 0
    · rw [if_pos hz]
      intro h1
      by_cases e : j = g
      · rw [e] at h1; exact absurd h1 hb
      · exact h j (by omega) h1
    · rw [if_neg hz]
      by_cases hs : pw_step p g = p.2.2 8
      · rw [if_pos hs]
        intro h1
        simp only [pw_a, pw_b] at h1 ⊢
        by_cases e : j = g
        · simp [e]; exact hs
        · simp [e] at h1 ⊢; exact h j (by omega) h1
      · rw [if_neg hs]
        intro h1
        simp only [pw_a, pw_f] at h1 ⊢
        by_cases e : j = g
        · rw [e] at h1; exact absurd h1 hb
        · simp [e]; exact h j (by omega) h1
theorem coh_gloves {p : pw} (n : Nat) : ∀ j, j < n → (pw_gloves p n).2.1 j = true → (pw_gloves p n).1 2 j = (pw_gloves p n).2.2 8 := by
  induction n with
  | zero => intro j hj; exact absurd hj (Nat.not_lt_zero _)
  | succ n ih => exact coh_glove ih
theorem coh_day (p : pw) (e : Nat) : coh (pw_day p e) := by
  intro j hj h1
  have hj : j < p.2.2 6 := by
    have h0 : (pw_day p e).2.2 6 = p.2.2 6 := pw_day_f _ _ _ (by decide) (by decide) (by decide)
    rw [h0] at hj; exact hj
  exact coh_gloves (p := pw_f p 8 e) (p.2.2 6) j hj h1
theorem coh_days {p : pw} (h : coh p) (n : Nat) : coh (pw_days p n) := by
  cases n with
  | zero => exact h
  | succ n => rw [pw_days_succ]; exact coh_day _ _
theorem pair_glove {p : pw} {j : Nat} (g : Nat) (h : p.2.1 j = true) : (pw_glove p g).2.1 j = true := by
  unfold pw_glove
  split
  · exact h
  · split
    · exact h
    · split
      · show (if j = g then true else p.2.1 j) = true
        rw [h]; split <;> rfl
      · exact h
theorem pair_gloves {p : pw} {j : Nat} (n : Nat) (h : p.2.1 j = true) : (pw_gloves p n).2.1 j = true := by
  induction n with
  | zero => exact h
  | succ n ih => exact pair_glove n ih
theorem pair_day {p : pw} {j : Nat} (e : Nat) (h : p.2.1 j = true) : (pw_day p e).2.1 j = true := pair_gloves (p := pw_f p 8 e) _ h
theorem pair_days {p : pw} {j : Nat} (n : Nat) (h : p.2.1 j = true) : (pw_days p n).2.1 j = true := by
  induction n generalizing p with
  | zero => exact h
  | succ n ih => exact ih (pair_day _ h)
theorem tb_all : ∀ b0 b1 b2 b3 a0 a1 a2 a3 : Bool, ((!a0 || b0) && (!a1 || b1) && (!a2 || b2) && (!a3 || b3)) = true → (nI (b0.toNat + 2 * b1.toNat + 4 * b2.toNat + 8 * b3.toNat) = nI (a0.toNat + 2 * a1.toNat + 4 * a2.toNat + 8 * a3.toNat) ↔ ((b0 && !a0) || (b1 && !a1) || (b2 && !a2) || (b3 && !a3)) = false) := by decide +kernel
theorem tb_m {f0 f : Nat → Bool} (h : ∀ j, f0 j = true → f j = true) : nI (pw_bits f) = nI (pw_bits f0) ↔ Tn f0 f = false := tb_all _ _ _ _ _ _ _ _ (by
  have i : ∀ j, (!f0 j || f j) = true := fun j => by
    cases e : f0 j with
    | false => rfl
    | true => rw [h j e]; rfl
  rw [i 0, i 1, i 2, i 3]; rfl)
theorem tn_self (f : Nat → Bool) : Tn f f = false := by
  unfold Tn
  cases f 0 <;> cases f 1 <;> cases f 2 <;> cases f 3 <;> rfl
theorem fp_none {T : (Nat → Bool) → Bool} (k : Nat) : ∀ (p : pw) (d : Nat), (∀ m, m < k → T (pw_days p m).2.1 = false) → fp T p k d = -4 := by
  induction k with
  | zero => intro p d _; rfl
  | succ k ih =>
    intro p d h
    unfold fp
    have h0 : T p.2.1 = false := h 0 (by omega)
    rw [h0, if_neg (by decide)]
    exact ih _ _ (fun m hm => h (m + 1) (by omega))
theorem fp_hit {T : (Nat → Bool) → Bool} (k : Nat) : ∀ (p : pw) (d m : Nat), m < k → (∀ i, i < m → T (pw_days p i).2.1 = false) → T (pw_days p m).2.1 = true → fp T p k d = nI (d + m) := by
  induction k with
  | zero => intro p d m hm; exact absurd hm (Nat.not_lt_zero _)
  | succ k ih =>
    intro p d m hm h1 h2
    unfold fp
    cases m with
    | zero =>
      have h2 : T p.2.1 = true := h2
      rw [if_pos h2]; rfl
    | succ m =>
      have h0 : T p.2.1 = false := h1 0 (by omega)
      rw [h0, if_neg (by decide), ih _ _ m (by omega) (fun i hi => h1 (i + 1) (by omega)) h2]
      congr 1
      omega
/-! how warm a glove must be -/
theorem wa_step (p : pw) (g x j : Nat) : pw_step (pw_a p 3 g x) j = pw_step p j := rfl
theorem wa_ne (p : pw) {g j : Nat} (x : Nat) (hj : j ≠ g) : pw_glove (pw_a p 3 g x) j = pw_a (pw_glove p j) 3 g x := by
  have hw : (pw_a p 3 g x).1 3 j = p.1 3 j := by simp [pw_a, hj]
  have hb : (pw_a p 3 g x).2 = p.2 := rfl
  unfold pw_glove
  rw [hw, hb, wa_step]
  by_cases h1 : p.2.1 j = true
  · rw [if_pos h1, if_pos h1]
    refine Prod.ext (funext fun k => funext fun q => ?_) rfl
    simp only [pw_a]
    by_cases e3 : k = 3 <;> by_cases eq : q = g <;> by_cases ej : q = j <;> simp_all
  · rw [if_neg h1, if_neg h1]
    by_cases h2 : p.1 3 j = 0
    · rw [if_pos h2, if_pos h2]
    · rw [if_neg h2, if_neg h2]
      by_cases h3 : pw_step p j = p.2.2 8
      · rw [if_pos h3, if_pos h3]
        refine Prod.ext (funext fun k => funext fun q => ?_) rfl
        simp only [pw_a, pw_b]
        by_cases e3 : k = 3 <;> by_cases eq : q = g <;> by_cases ej : q = j <;> simp_all
      · rw [if_neg h3, if_neg h3]
        refine Prod.ext (funext fun k => funext fun q => ?_) rfl
        simp only [pw_a, pw_f]
        by_cases e3 : k = 3 <;> by_cases eq : q = g <;> by_cases ej : q = j <;> simp_all
theorem wa_lo (p : pw) {g : Nat} (x : Nat) {n : Nat} (hn : n ≤ g) : pw_gloves (pw_a p 3 g x) n = pw_a (pw_gloves p n) 3 g x := by
  induction n with
  | zero => rfl
  | succ n ih =>
    show pw_glove (pw_gloves (pw_a p 3 g x) n) n = _
    rw [ih (by omega), wa_ne _ _ (by omega)]
    rfl
theorem ne_glove {p : pw} {g j : Nat} (h : j ≠ g) : (pw_glove p j).2.1 g = p.2.1 g := by
  unfold pw_glove
  split
  · rfl
  · split
    · rfl
    · split
      · show (if g = j then true else p.2.1 g) = _
        rw [if_neg (by omega)]
      · rfl
theorem ne_gloves {p : pw} {g n : Nat} (h : n ≤ g) : (pw_gloves p n).2.1 g = p.2.1 g := by
  induction n with
  | zero => rfl
  | succ n ih => exact (ne_glove (by omega)).trans (ih (by omega))
theorem wa_at {p : pw} {g : Nat} (hb : p.2.1 g = false) : ∃ r, ∀ x, 0 < x → pw_glove (pw_a p 3 g x) g = pw_a r 3 g (if r.2.1 g = true then x else x - 1) := by
  have hw : ∀ x, (pw_a p 3 g x).1 3 g = x := fun x => by simp [pw_a]
  by_cases h3 : pw_step p g = p.2.2 8
  · refine ⟨pw_b (pw_a p 2 g (pw_step p g)) g true, fun x hx => ?_⟩
    have e1 : (pw_b (pw_a p 2 g (pw_step p g)) g true).2.1 g = true := by simp [pw_b]
    rw [if_pos e1]
    unfold pw_glove
    rw [hw, show (pw_a p 3 g x).2 = p.2 from rfl, hb, if_neg (by decide), if_neg (by omega), wa_step, if_pos h3]
    refine Prod.ext (funext fun k => funext fun q => ?_) rfl
    simp only [pw_a, pw_b]
    by_cases e3 : k = 3 <;> by_cases eq : q = g <;> simp_all
  · refine ⟨pw_f (pw_a p 2 g (pw_step p g)) 9 (min (p.2.2 9 + p.1 0 (pw_step p g)) 9999), fun x hx => ?_⟩
    have e1 : (pw_f (pw_a p 2 g (pw_step p g)) 9 (min (p.2.2 9 + p.1 0 (pw_step p g)) 9999)).2.1 g = false := hb
    rw [e1, if_neg (by decide)]
    unfold pw_glove
    rw [hw, show (pw_a p 3 g x).2 = p.2 from rfl, hb, if_neg (by decide), if_neg (by omega), wa_step, if_neg h3]
    refine Prod.ext (funext fun k => funext fun q => ?_) rfl
    simp only [pw_a, pw_f]
    by_cases e3 : k = 3 <;> by_cases eq : q = g <;> simp_all
theorem wa_hi {p : pw} {g : Nat} (hb : p.2.1 g = false) (n : Nat) : ∃ r, ∀ x, 0 < x → pw_gloves (pw_a p 3 g x) (g + 1 + n) = pw_a r 3 g (if r.2.1 g = true then x else x - 1) := by
  induction n with
  | zero =>
    obtain ⟨r, hr⟩ := wa_at (p := pw_gloves p g) (g := g) (by rw [ne_gloves (Nat.le_refl _)]; exact hb)
    refine ⟨r, fun x hx => ?_⟩
    show pw_glove (pw_gloves (pw_a p 3 g x) g) g = _
    rw [wa_lo _ _ (Nat.le_refl _), hr x hx]
  | succ n ih =>
    obtain ⟨r, hr⟩ := ih
    refine ⟨pw_glove r (g + 1 + n), fun x hx => ?_⟩
    show pw_glove (pw_gloves (pw_a p 3 g x) (g + 1 + n)) (g + 1 + n) = _
    rw [hr x hx, wa_ne _ _ (by omega), ne_glove (by omega)]
theorem wa_day {p : pw} {g : Nat} (hb : p.2.1 g = false) (hg : g < p.2.2 6) (e : Nat) : ∃ r, ∀ x, 0 < x → pw_day (pw_a p 3 g x) e = pw_a r 3 g (if r.2.1 g = true then x else x - 1) := by
  obtain ⟨r, hr⟩ := wa_hi (p := pw_f p 8 e) (g := g) hb (p.2.2 6 - (g + 1))
  refine ⟨pw_f r 10 (p.2.2 10 + 1), fun x hx => ?_⟩
  have h0 := hr x hx
  rw [show g + 1 + (p.2.2 6 - (g + 1)) = p.2.2 6 by omega] at h0
  show pw_f (pw_gloves (pw_a (pw_f p 8 e) 3 g x) (p.2.2 6)) 10 (p.2.2 10 + 1) = _
  rw [h0]
  rfl
theorem wz_glove {p : pw} {g : Nat} (hb : p.2.1 g = false) (hz : p.1 3 g = 0) (j : Nat) : (pw_glove p j).2.1 g = false ∧ (pw_glove p j).1 3 g = 0 := by
  by_cases e : j = g
  · subst e
    unfold pw_glove
    rw [hb, if_neg (by decide), if_pos hz]
    exact ⟨hb, hz⟩
  · refine ⟨by rw [ne_glove e]; exact hb, ?_⟩
    have h1 : pw_a p 3 g 0 = p := by
      refine Prod.ext (funext fun k => funext fun q => ?_) rfl
      show (if k = 3 ∧ q = g then 0 else p.1 k q) = p.1 k q
      split
      · next h => rw [h.1, h.2, hz]
      · rfl
    have h2 := wa_ne p 0 e
    rw [h1] at h2
    rw [h2]
    simp [pw_a]
theorem wz_gloves {p : pw} {g : Nat} (hb : p.2.1 g = false) (hz : p.1 3 g = 0) (n : Nat) : (pw_gloves p n).2.1 g = false ∧ (pw_gloves p n).1 3 g = 0 := by
  induction n with
  | zero => exact ⟨hb, hz⟩
  | succ n ih => exact wz_glove ih.1 ih.2 n
theorem wz_days {p : pw} {g : Nat} (hb : p.2.1 g = false) (hz : p.1 3 g = 0) (n : Nat) : (pw_days p n).2.1 g = false := by
  induction n generalizing p with
  | zero => exact hb
  | succ n ih =>
    have h := wz_gloves (p := pw_f p 8 (pw_next p)) (g := g) hb hz (p.2.2 6)
    exact ih (p := pw_day p (pw_next p)) h.1 h.2
theorem wa_iff {g : Nat} (n : Nat) : ∀ (p : pw) (x z : Nat), g < p.2.2 6 → p.2.1 g = false → x ≤ z → ((pw_days (pw_a p 3 g x) n).2.1 g = true ↔ ∃ m, m ≤ n ∧ m ≤ x ∧ (pw_days (pw_a p 3 g z) m).2.1 g = true) := by
  induction n with
  | zero =>
    intro p x z hg hb hxz
    constructor
    · intro h
      have h : p.2.1 g = true := h
      rw [hb] at h; cases h
    · rintro ⟨m, h1, _, h3⟩
      have : m = 0 := by omega
      subst this
      exact h3
  | succ n ih =>
    intro p x z hg hb hxz
    rcases Nat.eq_zero_or_pos x with rfl | hx
    · constructor
      · intro h
        rw [wz_days (p := pw_a p 3 g 0) hb (by simp [pw_a])] at h; cases h
      · rintro ⟨m, _, h2, h3⟩
        have : m = 0 := by omega
        subst this
        have h3 : p.2.1 g = true := h3
        rw [hb] at h3; cases h3
    · obtain ⟨r, hr⟩ := wa_day hb hg (pw_next p)
      have en : ∀ w, pw_next (pw_a p 3 g w) = pw_next p := fun w => by
        unfold pw_next; simp [pw_a]
      have ed : ∀ w k, pw_days (pw_a p 3 g w) (k + 1) = pw_days (pw_day (pw_a p 3 g w) (pw_next p)) k := fun w k => by
        rw [← en w]; rfl
      have hgr : g < r.2.2 6 := by
        have h0 : (pw_day (pw_a p 3 g x) (pw_next p)).2.2 6 = p.2.2 6 := pw_day_f _ _ _ (by decide) (by decide) (by decide)
        rw [hr x hx] at h0
        have h0 : r.2.2 6 = p.2.2 6 := h0
        omega
      rw [ed, hr x hx]
      cases hp0 : r.2.1 g with
      | true =>
        rw [if_pos rfl]
        constructor
        · intro _
          refine ⟨1, by omega, hx, ?_⟩
          rw [ed z 0, hr z (by omega)]
          exact hp0
        · intro _
          exact pair_days n hp0
      | false =>
        rw [if_neg (by decide)]
        have hi := ih r (x - 1) (z - 1) hgr hp0 (by omega)
        rw [hi]
        constructor
        · rintro ⟨m, h1, h2, h3⟩
          refine ⟨m + 1, by omega, by omega, ?_⟩
          rw [ed, hr z (by omega), hp0, if_neg (by decide)]
          exact h3
        · rintro ⟨m, h1, h2, h3⟩
          cases m with
          | zero =>
            have h3 : p.2.1 g = true := h3
            rw [hb] at h3; cases h3
          | succ m =>
            rw [ed, hr z (by omega), hp0, if_neg (by decide)] at h3
            exact ⟨m, by omega, by omega, h3⟩
theorem wa_if {p : pw} {g : Nat} (hg : g < p.2.2 6) {x : Nat} (hx : x ≤ 20) (n : Nat) : (pw_days (pw_a p 3 g x) n).2.1 g = true ↔ ∃ m, m ≤ n ∧ m ≤ x ∧ (pw_days (pw_a p 3 g 20) m).2.1 g = true := by
  cases hb : p.2.1 g with
  | false => exact wa_iff n p x 20 hg hb hx
  | true =>
    constructor
    · intro _
      exact ⟨0, by omega, by omega, hb⟩
    · intro _
      exact pair_days (p := pw_a p 3 g x) n hb
theorem need_hit {p : pw} {g n x : Nat} (hg : g < p.2.2 6) (hx : x ≤ 20) (h1 : ∀ i, i < x → (pw_days (pw_a p 3 g i) n).2.1 g = false) (h2 : (pw_days (pw_a p 3 g x) n).2.1 g = true) : fp (Tg g) (pw_a p 3 g 20) (n + 1) 0 = nI x := by
  have no : ∀ i, i < x → i ≤ n → (pw_days (pw_a p 3 g 20) i).2.1 g = true → False := by
    intro i hi hin h
    have h0 := (wa_if hg (x := i) (by omega) n).mpr ⟨i, hin, Nat.le_refl _, h⟩
    rw [h1 i hi] at h0; cases h0
  obtain ⟨m, hm1, hm2, hm3⟩ := (wa_if hg hx n).mp h2
  have em : m = x := by
    rcases Nat.lt_or_ge m x with q | q
    · exact (no m q hm1 hm3).elim
    · omega
  subst em
  rw [fp_hit (n + 1) _ 0 m (by omega) (fun i hi => ?_) hm3, Nat.zero_add]
  show (pw_days (pw_a p 3 g 20) i).2.1 g = false
  cases hc : (pw_days (pw_a p 3 g 20) i).2.1 g with
  | false => rfl
  | true => exact (no i hi (by omega) hc).elim
theorem need_none {p : pw} {g n : Nat} (hg : g < p.2.2 6) (h1 : ∀ i, i < 21 → (pw_days (pw_a p 3 g i) n).2.1 g = false) : fp (Tg g) (pw_a p 3 g 20) (n + 1) 0 = -4 := by
  refine fp_none (n + 1) _ 0 fun m hm => ?_
  show (pw_days (pw_a p 3 g 20) m).2.1 g = false
  cases hc : (pw_days (pw_a p 3 g 20) m).2.1 g with
  | false => rfl
  | true =>
    obtain ⟨i, hi1, hi2, hi3⟩ := (wa_if hg (x := 20) (Nat.le_refl _) m).mp hc
    have h0 := (wa_if hg (x := i) hi2 n).mpr ⟨i, by omega, Nat.le_refl _, hi3⟩
    rw [h1 i (by omega)] at h0; cases h0
/-! rows shifted -/
def shf (a : Nat → Int32) (e q : Nat) : Nat → Int32 := fun x => if 30 + e ≤ x ∧ x < 30 + q then a (x + 1) else a x
theorem shf_0 (a : Nat → Int32) (e : Nat) : shf a e e = a := funext fun x => if_neg (by omega)
theorem shf_s {a : Nat → Int32} {e q : Nat} (h : e ≤ q) : upd (shf a e q) (30 + q) (shf a e q (30 + q + 1)) = shf a e (q + 1) := by
  funext x
  unfold shf upd
  by_cases ex : x = 30 + q
  · subst ex
    rw [if_pos rfl, if_neg (by omega), if_pos (by omega)]
  · rw [if_neg ex]
    show (if 30 + e ≤ x ∧ x < 30 + q then a (x + 1) else a x) = if 30 + e ≤ x ∧ x < 30 + (q + 1) then a (x + 1) else a x
    by_cases h1 : 30 + e ≤ x ∧ x < 30 + q
    · rw [if_pos h1, if_pos (by omega)]
    · rw [if_neg h1, if_neg (by omega)]
theorem aR.shun {a : Nat → Int32} {p : pw} (h : aR a p) (hO : pOk p) {e : Nat} (he : e < p.2.2 7) : aR (upd (shf a e 5) 29 (nI (p.2.2 7 - 1))) (pw_shun p e) := by
  have h4 : p.2.2 6 ≤ 4 := hO.2.2.2.2.1
  have h6 : p.2.2 7 ≤ 6 := hO.2.2.2.2.2.1
  have key : ∀ x, x < 29 ∨ 35 < x → upd (shf a e 5) 29 (nI (p.2.2 7 - 1)) x = a x := by
    intro x hx
    rw [pk_un (by omega)]
    exact if_neg (by omega)
  have h0 : ∀ k j, k ≠ 4 → (pw_shun p e).1 k j = p.1 k j := by
    intro k j hk
    show (if k = 4 ∧ e ≤ j ∧ j < p.2.2 7 - 1 then p.1 4 (j + 1) else p.1 k j) = _
    exact if_neg (by omega)
  refine ⟨fun j hj => ?_, fun g hg => ?_, fun j hj => ?_, ?_, ?_, ?_, ?_⟩
  · rw [key _ (by omega), h.1 j hj, h0 _ _ (by decide)]
  · have hg : g < p.2.2 6 := hg
    obtain ⟨k0, k1, k2, k3⟩ := h.2.1 g hg
    rw [key _ (by omega), key _ (by omega), key _ (by omega), key _ (by omega), h0 _ _ (by decide), h0 _ _ (by decide), h0 _ _ (by decide)]
    exact ⟨k0, k1, k2, k3⟩
  · have hj : j < p.2.2 7 - 1 := hj
    rw [pk_un (by omega)]
    show (if 30 + e ≤ 30 + j ∧ 30 + j < 30 + 5 then a (30 + j + 1) else a (30 + j)) = nI (if 4 = 4 ∧ e ≤ j ∧ j < p.2.2 7 - 1 then p.1 4 (j + 1) else p.1 4 j)
    by_cases hej : e ≤ j
    · rw [if_pos (by omega), if_pos (by omega)]
      exact h.2.2.1 (j + 1) (by omega)
    · rw [if_neg (by omega), if_neg (by omega)]
      exact h.2.2.1 j (by omega)
  · rw [key _ (by omega)]; exact h.2.2.2.1
  · rw [pk_us]; rfl
  · rw [key _ (by omega)]; exact h.2.2.2.2.2.1
  · rw [key _ (by omega)]; exact h.2.2.2.2.2.2
theorem gs_w_self (v : gs_Ob) (k : Nat) : gs_w v k (v.1 k) = v := by
  unfold gs_w
  refine Prod.ext (funext fun q => ?_) rfl
  show va_up v.1 k (v.1 k) q = v.1 q
  unfold va_up
  split
  · next h => rw [h]
  · rfl
set_option maxHeartbeats 4000000 in
set_option maxRecDepth 100000 in
theorem c_N_shun {G : gx_G} {σ : gs_S} {Q : Option Value → gx_Hp → Prop} {S : pS} {v : gs_Ob} (d : Nat) (x w : Int32) (hS : SOk S) (hm : mR v S) (hq : ∀ v1, mR v1 S → Q (some (.int (sp_shun S x w))) (hp G (gs_set σ 7 0 v1))) : gx_K G yX7_shun mX7_shun (d + 12) 0 0 [.ref (gs_a G 7 0 0), .int x, .int w] (hp G (gs_set σ 7 0 v)) Q := by
  obtain ⟨⟨ha, hsn, hgl⟩, hkm, htp, hft, hsh⟩ := id hm
  have hO := hS.1.1
  have hB := hO.aB
  have h4 : S.1.1.2.2 6 ≤ 4 := hO.2.2.2.2.1
  have h6 : S.1.1.2.2 7 ≤ 6 := hO.2.2.2.2.2.1
  have hm11 : S.1.1.2.2 8 ≤ 11 := hO.2.2.2.2.2.2.1
  have hn9 : S.1.1.2.2 9 ≤ 9999 := hO.2.2.2.2.2.2.2
  have hd9 : S.1.1.2.2 10 ≤ 999 := hS.1.2.2.1
  have h160 : S.2.2.2.1.2 ≤ 160 := hS.2.2.1.1
  have e28 := ha.2.2.2.1
  have e29 := ha.2.2.2.2.1
  have e36 := ha.2.2.2.2.2.1
  have e37 := ha.2.2.2.2.2.2
  have g0 : gs_set σ 7 0 v 7 0 = v := gs_same _ _ _ _
  have hgl0 : (gs_set σ 7 0 v 7 0).2.1 3 = nI (S.1.1.2.2 6) := by rw [g0]; exact hgl
  have ha0 : aR ((gs_set σ 7 0 v 7 0).1 0) S.1.1 := by rw [g0]; exact ha
  refine gx_K.of' (lv := [(0, _), (1, _), (2, _)]) (by decide) rfl (by decide) (Nat.le_of_ble_eq_true rfl) rfl ?_
  refine J_iload_n (i := 1) (n := 1) dX7_shun_0 rfl rfl rfl ?_
  refine J_callSr (n := 4) wS_X7_isFar (c_M_isFar (d + 10) x ⟨rfl, rfl⟩) dX7_shun_1 wm_X7_244 wT_X7_isFar rfl rfl (Nat.le_of_ble_eq_true rfl) rfl ?_
  refine J_if_eq (tgt := 14) (n := 7) dX7_shun_4 (by decide) rfl (fun c_4 => ?_) (fun c_4 => ?_)
  · refine J_iconst (n := 15) dX7_shun_14 kI_m1 rfl ?_
    refine J_iret dX7_shun_15 rfl (kN_i _) ?_
    unfold sp_shun at hq
    rw [if_neg (by first | (rw [nb_0] at c_4; rw [c_4, Bool.false_and]; decide) | (rw [nb_0] at c_11; rw [c_11, Bool.and_false]; decide))] at hq
    exact hq v hm
  · refine J_iload_n (i := 2) (n := 8) dX7_shun_7 rfl rfl rfl ?_
    refine J_callSr (n := 11) wS_X7_isPart (c_M_isPart (d + 10) w ⟨rfl, rfl⟩) dX7_shun_8 wm_X7_216 wT_X7_isPart rfl rfl (Nat.le_of_ble_eq_true rfl) rfl ?_
    refine J_if_ne (tgt := 16) (n := 14) dX7_shun_11 (by decide) rfl (fun c_11 => ?_) (fun c_11 => ?_)
    · rw [nb_t] at c_4 c_11
      unfold sp_shun at hq
      rw [if_pos (by rw [c_4, c_11]; rfl)] at hq
      obtain ⟨n, hn60, rfl⟩ := ix_of c_4 (by decide)
      rw [nat_nI (by omega)] at hq
      refine J_aload_n (i := 0) (n := 17) dX7_shun_16 rfl rfl rfl ?_
      refine J_callVx (n := 20) wS_X7_starts (c_M_starts (Q := fun r h => r = none ∧ ∃ v2, mN v2 S.1.1 ∧ mF v v2 ∧ h = hp G (gs_set σ 7 0 v2)) (d + 11) (fun v2 k1 _ k3 k4 => ⟨rfl, v2, ⟨hm.1.1.ext hB k1, by rw [k4]; exact hm.1.2.2⟩, ⟨k3, k4, k1⟩, rfl⟩)) dX7_shun_17 wm_X7_201 ⟨wM_X7_starts, wV_X7_starts⟩ rfl (T_recv (by decide) (by first | assumption | decide)) rfl rfl (Nat.le_of_ble_eq_true rfl) rfl (fun r h1 hq1 => ?_)
      obtain ⟨rfl, v2, hN2, hF2, rfl⟩ := hq1
      refine J_aload_n (i := 0) (n := 21) dX7_shun_20 rfl rfl rfl ?_
      refine J_aload_n (i := 0) (n := 22) dX7_shun_21 rfl rfl rfl ?_
      refine J_iload_n (i := 1) (n := 23) dX7_shun_22 rfl rfl rfl ?_
      refine J_callVx (n := 26) wS_X7_nameBehind (c_M_nameBehind (Q := fun r h => r = some (.int (nI (nb S.1.1 S.1.1 n))) ∧ ∃ v3, mE v2 v3 ∧ h = hp G (gs_set σ 7 0 v3)) (d + 4) hN2 hO (show S.1.1.2.2 10 + n < 2 ^ 30 by omega) (show v2.1 0 36 = nI (S.1.1.2.2 9) by rw [hF2.1 0 (by decide)]; exact e36) (fun v3 _ k2 => ⟨by rw [nb_eq (q := S.1.1) hn9 rfl n, pk_sub (by omega), Nat.add_sub_cancel_left], v3, k2, rfl⟩)) dX7_shun_23 wm_X7_236 ⟨wM_X7_nameBehind, wV_X7_nameBehind⟩ rfl (T_recv (by decide) (by first | assumption | decide)) rfl rfl (Nat.le_of_ble_eq_true rfl) rfl (fun r h1 hq1 => ?_)
      obtain ⟨rfl, v3, hE3, rfl⟩ := hq1
      refine J_callVv (n := 29) wS_X7_startsJudging (c_M_startsJudging (d + 11) _ ⟨rfl, rfl⟩) dX7_shun_26 wm_X7_255 ⟨wM_X7_startsJudging, wV_X7_startsJudging⟩ rfl (T_recv (by decide) (by first | assumption | decide)) rfl rfl (Nat.le_of_ble_eq_true rfl) rfl ?_
      refine J_iconst (n := 30) dX7_shun_29 kI_0 rfl ?_
      refine J_istore_n (i := 3) (n := 31) (lv' := [(0, _), (1, _), (2, _), (3, _)]) dX7_shun_30 rfl (by decide) rfl rfl ?_
      have hfl : ∀ i, (fun i => nb S.1.1 (pw_shun S.1.1 i) n) i < 10000 := fun i => nb_lt (show (pw_shun S.1.1 i).2.2 9 ≤ 9999 from hn9) n
      have hb0 := nb_lt (p := S.1.1) (q := S.1.1) hn9 n
      have loop : ∀ u e v1, S.1.1.2.2 7 - e < u → e ≤ S.1.1.2.2 7 → mR v1 S → mJd v1 (jds (fun i => nb S.1.1 (pw_shun S.1.1 i) n) (nb S.1.1 S.1.1 n) e) → gx_J G mX7_shun (d + 12) 0 0 Q 31 [(0, .ref (gs_a G 7 0 0)), (1, .int (nI n)), (2, .int w), (3, .int (nI e))] [] (hp G (gs_set σ 7 0 v1)) := by
        intro u
        induction u with
        | zero => intros; exact absurd (by assumption) (Nat.not_lt_zero _)
        | succ u ih =>
          intro e v1 hu he hm1 hJ1
          have hjl := jds_lt hfl hb0 e
          have hfe := hfl e
          have e29b := hm1.1.1.2.2.2.2.1
          have inn : ∀ u2 q v2, mN v2 S.1.1 → mF v1 v2 → e < S.1.1.2.2 7 → 5 - q < u2 → e ≤ q → q ≤ 5 → gx_J G mX7_shun (d + 12) 0 0 Q 49 [(0, .ref (gs_a G 7 0 0)), (1, .int (nI n)), (2, .int w), (3, .int (nI e)), (4, .int (nI q))] [] (hp G (gs_set σ 7 0 (gs_w v2 1 (shf (v2.1 1) e q)))) := by
            intro u2
            induction u2 with
            | zero => intros; exact absurd (by assumption) (Nat.not_lt_zero _)
            | succ u2 ih2 =>
              intro q v2 hN2 hF2 hel hu2 heq hq5
              refine J_iload (i := 4) (n := 51) dX7_shun_49 rfl rfl ?_
              refine J_iconst (n := 52) dX7_shun_51 kI_5 rfl ?_
              refine J_icmp_ge (tgt := 83) (n := 55) dX7_shun_52 (by decide) rfl (fun c_52 => ?_) (fun c_52 => ?_)
              · rw [nI_leI (by decide) (by omega)] at c_52
                have eq5 : q = 5 := by omega
                subst eq5
                refine J_aload_n (i := 0) (n := 84) dX7_shun_83 rfl rfl rfl ?_
                refine T_get (k := 1) (n := 87) wk_X7 dX7_shun_84 wf_X7_13 (by decide) (by first | assumption | decide) rfl rfl ?_
                refine J_bipush (n := 89) dX7_shun_87 kB_29 rfl ?_
                refine J_dup2 (n := 90) dX7_shun_89 rfl rfl rfl ?_
                refine T_iald (c := 7) (k := 1) (N := 57) (n := 91) dX7_shun_90 (by decide) (by first | assumption | decide) rfl (vp_in_nI (by decide) (by decide)) rfl ?_
                rw [nI_clamp (by decide), show (gs_w v2 1 (shf (v2.1 1) e 5)).1 1 29 = nI (S.1.1.2.2 7) from by rw [gs_w1]; unfold shf; rw [if_neg (by omega)]; exact hN2.1.2.2.2.2.1]
                refine J_iconst (n := 92) dX7_shun_91 kI_1 rfl ?_
                refine J_isub (n := 93) dX7_shun_92 rfl ?_
                rw [pk_sub (by omega)]
                refine T_iast (c := 7) (k := 1) (N := 57) (n := 94) dX7_shun_93 (by decide) (by first | assumption | decide) (fun _ => rfl) (vp_in_nI (by decide) (by decide)) rfl ?_
                rw [nI_clamp (by decide), gs_w1, show gs_w (gs_w v2 1 (shf (v2.1 1) e 5)) 1 (upd (shf (v2.1 1) e 5) 29 (nI (S.1.1.2.2 7 - 1))) = gs_w v2 1 (upd (shf (v2.1 1) e 5) 29 (nI (S.1.1.2.2 7 - 1))) from by unfold gs_w; rw [bx_uu]]
                have hQ3 := mQ.w1 v2 (upd (shf (v2.1 1) e 5) 29 (nI (S.1.1.2.2 7 - 1)))
                have hv3 : (gs_w v2 1 (upd (shf (v2.1 1) e 5) 29 (nI (S.1.1.2.2 7 - 1)))).2 = v2.2 := rfl
                have hN3 : mN (gs_w v2 1 (upd (shf (v2.1 1) e 5) 29 (nI (S.1.1.2.2 7 - 1)))) (pw_shun S.1.1 e) := ⟨by rw [gs_w1]; exact (hN2.1.shun hO hel), hN2.2⟩
                generalize gs_w v2 1 (upd (shf (v2.1 1) e 5) 29 (nI (S.1.1.2.2 7 - 1))) = v3 at hQ3 hv3 hN3 ⊢
                refine J_aload_n (i := 0) (n := 95) dX7_shun_94 rfl rfl rfl ?_
                refine J_iload_n (i := 3) (n := 96) dX7_shun_95 rfl rfl rfl ?_
                refine J_aload_n (i := 0) (n := 97) dX7_shun_96 rfl rfl rfl ?_
                refine J_iload_n (i := 1) (n := 98) dX7_shun_97 rfl rfl rfl ?_
                refine J_callVx (n := 101) wS_X7_nameBehind (c_M_nameBehind (Q := fun r h => r = some (.int (nI (nb S.1.1 (pw_shun S.1.1 e) n))) ∧ ∃ v4, mE v3 v4 ∧ h = hp G (gs_set σ 7 0 v4)) (d + 4) hN3 (pw_shun_ok hO (by omega)) (show S.1.1.2.2 10 + n < 2 ^ 30 by omega) (show v3.1 0 36 = nI (S.1.1.2.2 9) by rw [hQ3.1 0 (by decide), hF2.1 0 (by decide)]; exact hm1.1.1.2.2.2.2.2.1) (fun v4 _ k2 => ⟨by rw [nb_eq (q := (pw_shun S.1.1 e)) hn9 rfl n, pk_sub (by omega), Nat.add_sub_cancel_left], v4, k2, rfl⟩)) dX7_shun_98 wm_X7_236 ⟨wM_X7_nameBehind, wV_X7_nameBehind⟩ rfl (T_recv (by decide) (by first | assumption | decide)) rfl rfl (Nat.le_of_ble_eq_true rfl) rfl (fun r h1 hq1 => ?_)
                obtain ⟨rfl, v4, hE4, rfl⟩ := hq1
                refine J_callVv (n := 104) wS_X7_judges (c_M_judges (d + 11) _ _ ⟨rfl, rfl⟩) dX7_shun_101 wm_X7_261 ⟨wM_X7_judges, wV_X7_judges⟩ rfl (T_recv (by decide) (by first | assumption | decide)) rfl rfl (Nat.le_of_ble_eq_true rfl) rfl ?_
                refine J_inc (i := 3) (n := 107) (lv' := [(0, _), (1, _), (2, _), (3, _), (4, _)]) dX7_shun_104 rfl (by decide) rfl rfl ?_
                refine J_goto (tgt := 31) dX7_shun_107 (by decide) ?_
                refine J_sub (lv' := [(0, _), (1, _), (2, _), (3, _)]) (fun q hq => List.mem_append_left [(4, _)] hq) ?_
                exact ih (e + 1) _ (by omega) (by omega) (hm1.q ((hF2.q.tr hQ3).tr (hE4.q.tr (mQ.j _ _ _)))) (mJd.j (r := jds (fun i => nb S.1.1 (pw_shun S.1.1 i) n) (nb S.1.1 S.1.1 n) e) (by unfold mJd; rw [hE4.2.1, hv3, hF2.2.1]; exact hJ1) (Nat.lt_trans hfe (by decide)) (by omega))
              · rw [nI_leI (by decide) (by omega)] at c_52
                refine J_aload_n (i := 0) (n := 56) dX7_shun_55 rfl rfl rfl ?_
                refine T_get (k := 1) (n := 59) wk_X7 dX7_shun_56 wf_X7_13 (by decide) (by first | assumption | decide) rfl rfl ?_
                refine J_bipush (n := 61) dX7_shun_59 kB_30 rfl ?_
                refine J_iload (i := 4) (n := 63) dX7_shun_61 rfl rfl ?_
                refine J_iadd (n := 64) dX7_shun_63 rfl ?_
                rw [nI_add]
                refine J_aload_n (i := 0) (n := 65) dX7_shun_64 rfl rfl rfl ?_
                refine T_get (k := 1) (n := 68) wk_X7 dX7_shun_65 wf_X7_13 (by decide) (by first | assumption | decide) rfl rfl ?_
                refine J_bipush (n := 70) dX7_shun_68 kB_30 rfl ?_
                refine J_iload (i := 4) (n := 72) dX7_shun_70 rfl rfl ?_
                refine J_iadd (n := 73) dX7_shun_72 rfl ?_
                rw [nI_add]
                refine J_iconst (n := 74) dX7_shun_73 kI_1 rfl ?_
                refine J_iadd (n := 75) dX7_shun_74 rfl ?_
                rw [nI_add]
                refine T_iald (c := 7) (k := 1) (N := 57) (n := 76) dX7_shun_75 (by decide) (by first | assumption | decide) rfl (vp_in_nI (by omega) (by decide)) rfl ?_
                rw [nI_clamp (by omega)]
                refine T_iast (c := 7) (k := 1) (N := 57) (n := 77) dX7_shun_76 (by decide) (by first | assumption | decide) (fun _ => rfl) (vp_in_nI (by omega) (by decide)) rfl ?_
                rw [nI_clamp (by omega), gs_w1, shf_s heq, show gs_w (gs_w v2 1 (shf (v2.1 1) e q)) 1 (shf (v2.1 1) e (q + 1)) = gs_w v2 1 (shf (v2.1 1) e (q + 1)) from by unfold gs_w; rw [bx_uu]]
                refine J_inc (i := 4) (n := 80) (lv' := [(0, _), (1, _), (2, _), (3, _), (4, _)]) dX7_shun_77 rfl (by decide) rfl rfl ?_
                refine J_goto (tgt := 49) dX7_shun_80 (by decide) ?_
                exact ih2 (q + 1) v2 hN2 hF2 hel (by omega) (by omega) (by omega)
          refine J_iload_n (i := 3) (n := 32) dX7_shun_31 rfl rfl rfl ?_
          refine J_aload_n (i := 0) (n := 33) dX7_shun_32 rfl rfl rfl ?_
          refine T_get (k := 0) (n := 36) wk_X7 dX7_shun_33 wf_X7_7 (by decide) (by first | assumption | decide) rfl rfl ?_
          refine J_bipush (n := 38) dX7_shun_36 kB_29 rfl ?_
          refine T_iald (c := 7) (k := 0) (N := 171) (n := 39) dX7_shun_38 (by decide) (by first | assumption | decide) rfl (vp_in_nI (by decide) (by decide)) rfl ?_
          rw [nI_clamp (by decide), e29b]
          refine J_icmp_ge (tgt := 110) (n := 42) dX7_shun_39 (by decide) rfl (fun c_39 => ?_) (fun c_39 => ?_)
          · refine J_aload_n (i := 0) (n := 111) dX7_shun_110 rfl rfl rfl ?_
            refine J_iload_n (i := 2) (n := 112) dX7_shun_111 rfl rfl rfl ?_
            refine J_callVr (n := 115) wS_X7_judged (c_M_judged (d + 11) w ⟨rfl, rfl⟩) dX7_shun_112 wm_X7_265 ⟨wM_X7_judged, wV_X7_judged⟩ rfl (T_recv (by decide) (by first | assumption | decide)) rfl rfl (Nat.le_of_ble_eq_true rfl) rfl ?_
            refine J_iret dX7_shun_115 rfl (kN_i _) ?_
            rw [nI_leI (by omega) (by omega)] at c_39
            have ee : e = S.1.1.2.2 7 := by omega
            subst ee
            rw [mJd.ad hJ1 w (fun c hc => by have := jds_code _ c hc; omega)]
            exact hq _ hm1
          · rw [nI_leI (by omega) (by omega)] at c_39
            refine J_aload_n (i := 0) (n := 43) dX7_shun_42 rfl rfl rfl ?_
            refine J_callVx (n := 46) wS_X7_starts (c_M_starts (Q := fun r h => r = none ∧ ∃ v2, mN v2 S.1.1 ∧ mF v1 v2 ∧ h = hp G (gs_set σ 7 0 v2)) (d + 11) (fun v2 k1 _ k3 k4 => ⟨rfl, v2, ⟨hm1.1.1.ext hB k1, by rw [k4]; exact hm1.1.2.2⟩, ⟨k3, k4, k1⟩, rfl⟩)) dX7_shun_43 wm_X7_201 ⟨wM_X7_starts, wV_X7_starts⟩ rfl (T_recv (by decide) (by first | assumption | decide)) rfl rfl (Nat.le_of_ble_eq_true rfl) rfl (fun r h1 hq1 => ?_)
            obtain ⟨rfl, v2, hN2, hF2, rfl⟩ := hq1
            refine J_iload_n (i := 3) (n := 47) dX7_shun_46 rfl rfl rfl ?_
            refine J_istore (i := 4) (n := 49) (lv' := [(0, _), (1, _), (2, _), (3, _), (4, _)]) dX7_shun_47 (by decide) rfl rfl ?_
            have hi := inn (5 - e + 1) e v2 hN2 hF2 (by omega) (by omega) (by omega) (by omega)
            rw [shf_0, show gs_w v2 1 (v2.1 1) = v2 from gs_w_self v2 1] at hi
            exact hi
      exact loop (S.1.1.2.2 7 + 1) 0 _ (by omega) (by omega) (hm.q (hF2.q.tr (hE3.q.tr ((mQ.f _ 18 _ (Or.inl rfl)).tr (mQ.f _ 19 _ (Or.inr rfl)))))) ⟨by simp [gs_f, upd, jds, swO, cd], by simp [gs_f, upd, jds, swO]⟩
    · refine J_iconst (n := 15) dX7_shun_14 kI_m1 rfl ?_
      refine J_iret dX7_shun_15 rfl (kN_i _) ?_
      unfold sp_shun at hq
      rw [if_neg (by first | (rw [nb_0] at c_4; rw [c_4, Bool.false_and]; decide) | (rw [nb_0] at c_11; rw [c_11, Bool.and_false]; decide))] at hq
      exact hq v hm

set_option maxHeartbeats 4000000 in
set_option maxRecDepth 100000 in
theorem c_N_swap {G : gx_G} {σ : gs_S} {Q : Option Value → gx_Hp → Prop} {S : pS} {v : gs_Ob} (d : Nat) (x w : Int32) (hS : SOk S) (hm : mR v S) (hq : ∀ v1, mR v1 S → Q (some (.int (sp_swap S x w))) (hp G (gs_set σ 7 0 v1))) : gx_K G yX7_swap mX7_swap (d + 12) 0 0 [.ref (gs_a G 7 0 0), .int x, .int w] (hp G (gs_set σ 7 0 v)) Q := by
  obtain ⟨⟨ha, hsn, hgl⟩, hkm, htp, hft, hsh⟩ := id hm
  have hO := hS.1.1
  have hB := hO.aB
  have h4 : S.1.1.2.2 6 ≤ 4 := hO.2.2.2.2.1
  have h6 : S.1.1.2.2 7 ≤ 6 := hO.2.2.2.2.2.1
  have hm11 : S.1.1.2.2 8 ≤ 11 := hO.2.2.2.2.2.2.1
  have hn9 : S.1.1.2.2 9 ≤ 9999 := hO.2.2.2.2.2.2.2
  have hd9 : S.1.1.2.2 10 ≤ 999 := hS.1.2.2.1
  have h160 : S.2.2.2.1.2 ≤ 160 := hS.2.2.1.1
  have e28 := ha.2.2.2.1
  have e29 := ha.2.2.2.2.1
  have e36 := ha.2.2.2.2.2.1
  have e37 := ha.2.2.2.2.2.2
  have g0 : gs_set σ 7 0 v 7 0 = v := gs_same _ _ _ _
  have hgl0 : (gs_set σ 7 0 v 7 0).2.1 3 = nI (S.1.1.2.2 6) := by rw [g0]; exact hgl
  have ha0 : aR ((gs_set σ 7 0 v 7 0).1 0) S.1.1 := by rw [g0]; exact ha
  refine gx_K.of' (lv := [(0, _), (1, _), (2, _)]) (by decide) rfl (by decide) (Nat.le_of_ble_eq_true rfl) rfl ?_
  refine J_iload_n (i := 1) (n := 1) dX7_swap_0 rfl rfl rfl ?_
  refine J_callSr (n := 4) wS_X7_isFar (c_M_isFar (d + 10) x ⟨rfl, rfl⟩) dX7_swap_1 wm_X7_244 wT_X7_isFar rfl rfl (Nat.le_of_ble_eq_true rfl) rfl ?_
  refine J_if_eq (tgt := 14) (n := 7) dX7_swap_4 (by decide) rfl (fun c_4 => ?_) (fun c_4 => ?_)
  · refine J_iconst (n := 15) dX7_swap_14 kI_m1 rfl ?_
    refine J_iret dX7_swap_15 rfl (kN_i _) ?_
    unfold sp_swap at hq
    rw [if_neg (by first | (rw [nb_0] at c_4; rw [c_4, Bool.false_and]; decide) | (rw [nb_0] at c_11; rw [c_11, Bool.and_false]; decide))] at hq
    exact hq v hm
  · refine J_iload_n (i := 2) (n := 8) dX7_swap_7 rfl rfl rfl ?_
    refine J_callSr (n := 11) wS_X7_isPart (c_M_isPart (d + 10) w ⟨rfl, rfl⟩) dX7_swap_8 wm_X7_216 wT_X7_isPart rfl rfl (Nat.le_of_ble_eq_true rfl) rfl ?_
    refine J_if_ne (tgt := 16) (n := 14) dX7_swap_11 (by decide) rfl (fun c_11 => ?_) (fun c_11 => ?_)
    · rw [nb_t] at c_4 c_11
      unfold sp_swap at hq
      rw [if_pos (by rw [c_4, c_11]; rfl)] at hq
      obtain ⟨n, hn60, rfl⟩ := ix_of c_4 (by decide)
      rw [nat_nI (by omega)] at hq
      refine J_aload_n (i := 0) (n := 17) dX7_swap_16 rfl rfl rfl ?_
      refine J_callVx (n := 20) wS_X7_starts (c_M_starts (Q := fun r h => r = none ∧ ∃ v2, mN v2 S.1.1 ∧ mF v v2 ∧ h = hp G (gs_set σ 7 0 v2)) (d + 11) (fun v2 k1 _ k3 k4 => ⟨rfl, v2, ⟨hm.1.1.ext hB k1, by rw [k4]; exact hm.1.2.2⟩, ⟨k3, k4, k1⟩, rfl⟩)) dX7_swap_17 wm_X7_201 ⟨wM_X7_starts, wV_X7_starts⟩ rfl (T_recv (by decide) (by first | assumption | decide)) rfl rfl (Nat.le_of_ble_eq_true rfl) rfl (fun r h1 hq1 => ?_)
      obtain ⟨rfl, v2, hN2, hF2, rfl⟩ := hq1
      refine J_aload_n (i := 0) (n := 21) dX7_swap_20 rfl rfl rfl ?_
      refine J_aload_n (i := 0) (n := 22) dX7_swap_21 rfl rfl rfl ?_
      refine J_iload_n (i := 1) (n := 23) dX7_swap_22 rfl rfl rfl ?_
      refine J_callVx (n := 26) wS_X7_nameBehind (c_M_nameBehind (Q := fun r h => r = some (.int (nI (nb S.1.1 S.1.1 n))) ∧ ∃ v3, mE v2 v3 ∧ h = hp G (gs_set σ 7 0 v3)) (d + 4) hN2 hO (show S.1.1.2.2 10 + n < 2 ^ 30 by omega) (show v2.1 0 36 = nI (S.1.1.2.2 9) by rw [hF2.1 0 (by decide)]; exact e36) (fun v3 _ k2 => ⟨by rw [nb_eq (q := S.1.1) hn9 rfl n, pk_sub (by omega), Nat.add_sub_cancel_left], v3, k2, rfl⟩)) dX7_swap_23 wm_X7_236 ⟨wM_X7_nameBehind, wV_X7_nameBehind⟩ rfl (T_recv (by decide) (by first | assumption | decide)) rfl rfl (Nat.le_of_ble_eq_true rfl) rfl (fun r h1 hq1 => ?_)
      obtain ⟨rfl, v3, hE3, rfl⟩ := hq1
      refine J_callVv (n := 29) wS_X7_startsJudging (c_M_startsJudging (d + 11) _ ⟨rfl, rfl⟩) dX7_swap_26 wm_X7_255 ⟨wM_X7_startsJudging, wV_X7_startsJudging⟩ rfl (T_recv (by decide) (by first | assumption | decide)) rfl rfl (Nat.le_of_ble_eq_true rfl) rfl ?_
      refine J_iconst (n := 30) dX7_swap_29 kI_0 rfl ?_
      refine J_istore_n (i := 3) (n := 31) (lv' := [(0, _), (1, _), (2, _), (3, _)]) dX7_swap_30 rfl (by decide) rfl rfl ?_
      have hfl2 : ∀ i k, (fun i k => nb S.1.1 (pw_sw S.1.1 i k) n) i k < 10000 := fun i k => nb_lt (show (pw_sw S.1.1 i k).2.2 9 ≤ 9999 from hn9) n
      have hb0 := nb_lt (p := S.1.1) (q := S.1.1) hn9 n
      have hl2 := fun e => swO_lt (k := S.1.1.2.2 7) hfl2 hb0 e
      have loop : ∀ u e v1, S.1.1.2.2 7 - e < u → e ≤ S.1.1.2.2 7 → mR v1 S → mJd v1 (swO (fun i k => nb S.1.1 (pw_sw S.1.1 i k) n) (S.1.1.2.2 7) (nb S.1.1 S.1.1 n) e) → gx_J G mX7_swap (d + 12) 0 0 Q 31 [(0, .ref (gs_a G 7 0 0)), (1, .int (nI n)), (2, .int w), (3, .int (nI e))] [] (hp G (gs_set σ 7 0 v1)) := by
        intro u
        induction u with
        | zero => intros; exact absurd (by assumption) (Nat.not_lt_zero _)
        | succ u ih =>
          intro e v0 hu he hm0 hJ0
          have e29a := hm0.1.1.2.2.2.2.1
          have inn : e < S.1.1.2.2 7 → ∀ u2 m v1, S.1.1.2.2 7 - (e + 1) - m < u2 → m ≤ S.1.1.2.2 7 - (e + 1) → mR v1 S → mJd v1 (swI (fun i k => nb S.1.1 (pw_sw S.1.1 i k) n) e (swO (fun i k => nb S.1.1 (pw_sw S.1.1 i k) n) (S.1.1.2.2 7) (nb S.1.1 S.1.1 n) e) m) → gx_J G mX7_swap (d + 12) 0 0 Q 47 [(0, .ref (gs_a G 7 0 0)), (1, .int (nI n)), (2, .int w), (3, .int (nI e)), (4, .int (nI (e + 1 + m)))] [] (hp G (gs_set σ 7 0 v1)) := by
            intro hel u2
            induction u2 with
            | zero => intros; exact absurd (by assumption) (Nat.not_lt_zero _)
            | succ u2 ih2 =>
              intro m v1 hu2 hmm hm1 hJ1
              have e29b := hm1.1.1.2.2.2.2.1
              have hjl := swI_lt (i := e) hfl2 (hl2 e) m
              have hfe := hfl2 e (e + 1 + m)
              refine J_iload (i := 4) (n := 49) dX7_swap_47 rfl rfl ?_
              refine J_aload_n (i := 0) (n := 50) dX7_swap_49 rfl rfl rfl ?_
              refine T_get (k := 0) (n := 53) wk_X7 dX7_swap_50 wf_X7_7 (by decide) (by first | assumption | decide) rfl rfl ?_
              refine J_bipush (n := 55) dX7_swap_53 kB_29 rfl ?_
              refine T_iald (c := 7) (k := 0) (N := 171) (n := 56) dX7_swap_55 (by decide) (by first | assumption | decide) rfl (vp_in_nI (by decide) (by decide)) rfl ?_
              rw [nI_clamp (by decide), e29b]
              refine J_icmp_ge (tgt := 123) (n := 59) dX7_swap_56 (by decide) rfl (fun c_56 => ?_) (fun c_56 => ?_)
              · refine J_inc (i := 3) (n := 126) (lv' := [(0, _), (1, _), (2, _), (3, _), (4, _)]) dX7_swap_123 rfl (by decide) rfl rfl ?_
                refine J_goto (tgt := 31) dX7_swap_126 (by decide) ?_
                refine J_sub (lv' := [(0, _), (1, _), (2, _), (3, _)]) (fun q hq => List.mem_append_left [(4, _)] hq) ?_
                rw [nI_leI (by omega) (by omega)] at c_56
                have em : m = S.1.1.2.2 7 - (e + 1) := by omega
                subst em
                exact ih (e + 1) _ (by omega) (by omega) hm1 hJ1
              · rw [nI_leI (by omega) (by omega)] at c_56
                refine J_aload_n (i := 0) (n := 60) dX7_swap_59 rfl rfl rfl ?_
                refine J_callVx (n := 63) wS_X7_starts (c_M_starts (Q := fun r h => r = none ∧ ∃ v2, mN v2 S.1.1 ∧ mF v1 v2 ∧ h = hp G (gs_set σ 7 0 v2)) (d + 11) (fun v2 k1 _ k3 k4 => ⟨rfl, v2, ⟨hm1.1.1.ext hB k1, by rw [k4]; exact hm1.1.2.2⟩, ⟨k3, k4, k1⟩, rfl⟩)) dX7_swap_60 wm_X7_201 ⟨wM_X7_starts, wV_X7_starts⟩ rfl (T_recv (by decide) (by first | assumption | decide)) rfl rfl (Nat.le_of_ble_eq_true rfl) rfl (fun r h1 hq1 => ?_)
                obtain ⟨rfl, v2, hN2, hF2, rfl⟩ := hq1
                refine J_aload_n (i := 0) (n := 64) dX7_swap_63 rfl rfl rfl ?_
                refine T_get (k := 1) (n := 67) wk_X7 dX7_swap_64 wf_X7_13 (by decide) (by first | assumption | decide) rfl rfl ?_
                refine J_bipush (n := 69) dX7_swap_67 kB_30 rfl ?_
                refine J_iload_n (i := 3) (n := 70) dX7_swap_69 rfl rfl rfl ?_
                refine J_iadd (n := 71) dX7_swap_70 rfl ?_
                rw [nI_add]
                refine J_aload_n (i := 0) (n := 72) dX7_swap_71 rfl rfl rfl ?_
                refine T_get (k := 0) (n := 75) wk_X7 dX7_swap_72 wf_X7_7 (by decide) (by first | assumption | decide) rfl rfl ?_
                refine J_bipush (n := 77) dX7_swap_75 kB_30 rfl ?_
                refine J_iload (i := 4) (n := 79) dX7_swap_77 rfl rfl ?_
                refine J_iadd (n := 80) dX7_swap_79 rfl ?_
                rw [nI_add]
                refine T_iald (c := 7) (k := 0) (N := 171) (n := 81) dX7_swap_80 (by decide) (by first | assumption | decide) rfl (vp_in_nI (by omega) (by decide)) rfl ?_
                rw [nI_clamp (by omega), hF2.1 0 (by decide), hm1.1.1.2.2.1 (e + 1 + m) (by omega)]
                refine T_iast (c := 7) (k := 1) (N := 57) (n := 82) dX7_swap_81 (by decide) (by first | assumption | decide) (fun _ => rfl) (vp_in_nI (by omega) (by decide)) rfl ?_
                rw [nI_clamp (by omega)]
                refine J_aload_n (i := 0) (n := 83) dX7_swap_82 rfl rfl rfl ?_
                refine T_get (k := 1) (n := 86) wk_X7 dX7_swap_83 wf_X7_13 (by decide) (by first | assumption | decide) rfl rfl ?_
                refine J_bipush (n := 88) dX7_swap_86 kB_30 rfl ?_
                refine J_iload (i := 4) (n := 90) dX7_swap_88 rfl rfl ?_
                refine J_iadd (n := 91) dX7_swap_90 rfl ?_
                rw [nI_add]
                refine J_aload_n (i := 0) (n := 92) dX7_swap_91 rfl rfl rfl ?_
                refine T_get (k := 0) (n := 95) wk_X7 dX7_swap_92 wf_X7_7 (by decide) (by first | assumption | decide) rfl rfl ?_
                refine J_bipush (n := 97) dX7_swap_95 kB_30 rfl ?_
                refine J_iload_n (i := 3) (n := 98) dX7_swap_97 rfl rfl rfl ?_
                refine J_iadd (n := 99) dX7_swap_98 rfl ?_
                rw [nI_add]
                refine T_iald (c := 7) (k := 0) (N := 171) (n := 100) dX7_swap_99 (by decide) (by first | assumption | decide) rfl (vp_in_nI (by omega) (by decide)) rfl ?_
                rw [nI_clamp (by omega), show (gs_w v2 1 (upd (v2.1 1) (30 + e) (nI (S.1.1.1 4 (e + 1 + m))))).1 0 (30 + e) = nI (S.1.1.1 4 e) from by simp only [gs_w, va_up]; rw [if_neg (by decide), hF2.1 0 (by decide)]; exact hm1.1.1.2.2.1 e (by omega)]
                refine T_iast (c := 7) (k := 1) (N := 57) (n := 101) dX7_swap_100 (by decide) (by first | assumption | decide) (fun _ => rfl) (vp_in_nI (by omega) (by decide)) rfl ?_
                rw [nI_clamp (by omega), gs_w1, show gs_w (gs_w v2 1 (upd (v2.1 1) (30 + e) (nI (S.1.1.1 4 (e + 1 + m))))) 1 (upd (upd (v2.1 1) (30 + e) (nI (S.1.1.1 4 (e + 1 + m)))) (30 + (e + 1 + m)) (nI (S.1.1.1 4 e))) = gs_w v2 1 (upd (upd (v2.1 1) (30 + e) (nI (S.1.1.1 4 (e + 1 + m)))) (30 + (e + 1 + m)) (nI (S.1.1.1 4 e))) from by unfold gs_w; rw [bx_uu]]
                have hQ3 := mQ.w1 v2 (upd (upd (v2.1 1) (30 + e) (nI (S.1.1.1 4 (e + 1 + m)))) (30 + (e + 1 + m)) (nI (S.1.1.1 4 e)))
                have hv3 : (gs_w v2 1 (upd (upd (v2.1 1) (30 + e) (nI (S.1.1.1 4 (e + 1 + m)))) (30 + (e + 1 + m)) (nI (S.1.1.1 4 e)))).2 = v2.2 := rfl
                have hN3 : mN (gs_w v2 1 (upd (upd (v2.1 1) (30 + e) (nI (S.1.1.1 4 (e + 1 + m)))) (30 + (e + 1 + m)) (nI (S.1.1.1 4 e)))) (pw_sw S.1.1 e (e + 1 + m)) := ⟨by rw [gs_w1]; exact ((hN2.1.route hB (S.1.1.1 4 (e + 1 + m)) (by omega)).route hB (S.1.1.1 4 e) (by omega)), hN2.2⟩
                generalize gs_w v2 1 (upd (upd (v2.1 1) (30 + e) (nI (S.1.1.1 4 (e + 1 + m)))) (30 + (e + 1 + m)) (nI (S.1.1.1 4 e))) = v3 at hQ3 hv3 hN3 ⊢
                refine J_aload_n (i := 0) (n := 102) dX7_swap_101 rfl rfl rfl ?_
                refine J_bipush (n := 104) dX7_swap_102 kB_10 rfl ?_
                refine J_iload_n (i := 3) (n := 105) dX7_swap_104 rfl rfl rfl ?_
                refine J_imul (n := 106) dX7_swap_105 rfl ?_
                refine J_iload (i := 4) (n := 108) dX7_swap_106 rfl rfl ?_
                refine J_iadd (n := 109) dX7_swap_108 rfl ?_
                rw [pk_mul, nI_add]
                refine J_aload_n (i := 0) (n := 110) dX7_swap_109 rfl rfl rfl ?_
                refine J_iload_n (i := 1) (n := 111) dX7_swap_110 rfl rfl rfl ?_
                refine J_callVx (n := 114) wS_X7_nameBehind (c_M_nameBehind (Q := fun r h => r = some (.int (nI (nb S.1.1 (pw_sw S.1.1 e (e + 1 + m)) n))) ∧ ∃ v4, mE v3 v4 ∧ h = hp G (gs_set σ 7 0 v4)) (d + 4) hN3 (pw_sw_ok hO (by omega) (by omega)) (show S.1.1.2.2 10 + n < 2 ^ 30 by omega) (show v3.1 0 36 = nI (S.1.1.2.2 9) by rw [hQ3.1 0 (by decide), hF2.1 0 (by decide)]; exact hm1.1.1.2.2.2.2.2.1) (fun v4 _ k2 => ⟨by rw [nb_eq (q := (pw_sw S.1.1 e (e + 1 + m))) hn9 rfl n, pk_sub (by omega), Nat.add_sub_cancel_left], v4, k2, rfl⟩)) dX7_swap_111 wm_X7_236 ⟨wM_X7_nameBehind, wV_X7_nameBehind⟩ rfl (T_recv (by decide) (by first | assumption | decide)) rfl rfl (Nat.le_of_ble_eq_true rfl) rfl (fun r h1 hq1 => ?_)
                obtain ⟨rfl, v4, hE4, rfl⟩ := hq1
                refine J_callVv (n := 117) wS_X7_judges (c_M_judges (d + 11) _ _ ⟨rfl, rfl⟩) dX7_swap_114 wm_X7_261 ⟨wM_X7_judges, wV_X7_judges⟩ rfl (T_recv (by decide) (by first | assumption | decide)) rfl rfl (Nat.le_of_ble_eq_true rfl) rfl ?_
                refine J_inc (i := 4) (n := 120) (lv' := [(0, _), (1, _), (2, _), (3, _), (4, _)]) dX7_swap_117 rfl (by decide) rfl rfl ?_
                refine J_goto (tgt := 47) dX7_swap_120 (by decide) ?_
                exact ih2 (m + 1) _ (by omega) (by omega) (hm1.q ((hF2.q.tr hQ3).tr (hE4.q.tr (mQ.j _ _ _)))) (mJd.j (r := swI (fun i k => nb S.1.1 (pw_sw S.1.1 i k) n) e (swO (fun i k => nb S.1.1 (pw_sw S.1.1 i k) n) (S.1.1.2.2 7) (nb S.1.1 S.1.1 n) e) m) (by unfold mJd; rw [hE4.2.1, hv3, hF2.2.1]; exact hJ1) (Nat.lt_trans hfe (by decide)) (by omega))
          refine J_iload_n (i := 3) (n := 32) dX7_swap_31 rfl rfl rfl ?_
          refine J_aload_n (i := 0) (n := 33) dX7_swap_32 rfl rfl rfl ?_
          refine T_get (k := 0) (n := 36) wk_X7 dX7_swap_33 wf_X7_7 (by decide) (by first | assumption | decide) rfl rfl ?_
          refine J_bipush (n := 38) dX7_swap_36 kB_29 rfl ?_
          refine T_iald (c := 7) (k := 0) (N := 171) (n := 39) dX7_swap_38 (by decide) (by first | assumption | decide) rfl (vp_in_nI (by decide) (by decide)) rfl ?_
          rw [nI_clamp (by decide), e29a]
          refine J_icmp_ge (tgt := 129) (n := 42) dX7_swap_39 (by decide) rfl (fun c_39 => ?_) (fun c_39 => ?_)
          · refine J_aload_n (i := 0) (n := 130) dX7_swap_129 rfl rfl rfl ?_
            refine J_iload_n (i := 2) (n := 131) dX7_swap_130 rfl rfl rfl ?_
            refine J_callVr (n := 134) wS_X7_judged (c_M_judged (d + 11) w ⟨rfl, rfl⟩) dX7_swap_131 wm_X7_265 ⟨wM_X7_judged, wV_X7_judged⟩ rfl (T_recv (by decide) (by first | assumption | decide)) rfl rfl (Nat.le_of_ble_eq_true rfl) rfl ?_
            refine J_iret dX7_swap_134 rfl (kN_i _) ?_
            rw [nI_leI (by omega) (by omega)] at c_39
            have ee : e = S.1.1.2.2 7 := by omega
            subst ee
            rw [mJd.ad hJ0 w (fun c hc => by have := swO_code h6 _ (Nat.le_refl _) c hc; omega)]
            exact hq _ hm0
          · rw [nI_leI (by omega) (by omega)] at c_39
            refine J_iload_n (i := 3) (n := 43) dX7_swap_42 rfl rfl rfl ?_
            refine J_iconst (n := 44) dX7_swap_43 kI_1 rfl ?_
            refine J_iadd (n := 45) dX7_swap_44 rfl ?_
            rw [nI_add]
            refine J_istore (i := 4) (n := 47) (lv' := [(0, _), (1, _), (2, _), (3, _), (4, _)]) dX7_swap_45 (by decide) rfl rfl ?_
            exact inn (by omega) (S.1.1.2.2 7 - (e + 1) + 1) 0 v0 (by omega) (by omega) hm0 hJ0
      exact loop (S.1.1.2.2 7 + 1) 0 _ (by omega) (by omega) (hm.q (hF2.q.tr (hE3.q.tr ((mQ.f _ 18 _ (Or.inl rfl)).tr (mQ.f _ 19 _ (Or.inr rfl)))))) ⟨by simp [gs_f, upd, jds, swO, cd], by simp [gs_f, upd, jds, swO]⟩
    · refine J_iconst (n := 15) dX7_swap_14 kI_m1 rfl ?_
      refine J_iret dX7_swap_15 rfl (kN_i _) ?_
      unfold sp_swap at hq
      rw [if_neg (by first | (rw [nb_0] at c_4; rw [c_4, Bool.false_and]; decide) | (rw [nb_0] at c_11; rw [c_11, Bool.and_false]; decide))] at hq
      exact hq v hm

