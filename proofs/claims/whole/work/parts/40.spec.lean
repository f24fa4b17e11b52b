/-! ===== trials: first pairings, best choices ===== -/
def fp (T : (Nat → Bool) → Bool) : pw → Nat → Nat → Int32
  | _, 0, _ => -4
  | p, k + 1, d => if T p.2.1 = true then nI d else fp T (pw_day p (pw_next p)) k (d + 1)
def jq (r : Option (Nat × Nat)) (c m : Nat) : Option (Nat × Nat) := match r with
  | none => some (c, m)
  | some x => if x.2 < m then some (c, m) else some x
def jqs (f : Nat → Nat) : Nat → Option (Nat × Nat)
  | 0 => none
  | n + 1 => jq (jqs f n) n (f n)
def jd (r : Option Nat × Nat) (c m : Nat) : Option Nat × Nat := if r.2 < m then (some c, m) else r
def jds (f : Nat → Nat) (b : Nat) : Nat → Option Nat × Nat
  | 0 => (none, b)
  | n + 1 => jd (jds f b n) n (f n)
def swI (f : Nat → Nat → Nat) (i : Nat) (r : Option Nat × Nat) : Nat → Option Nat × Nat
  | 0 => r
  | m + 1 => jd (swI f i r m) (10 * i + (i + 1 + m)) (f i (i + 1 + m))
def swO (f : Nat → Nat → Nat) (c b : Nat) : Nat → Option Nat × Nat
  | 0 => (none, b)
  | i + 1 => swI f i (swO f c b i) (c - (i + 1))
def cd (o : Option Nat) : Int32 := match o with
  | none => -4
  | some c => nI c
def aq (r : Option (Nat × Nat)) (w : Int32) : Int32 := match r with
  | none => -4
  | some x => if w = 0 then nI x.1 else nI x.2
def ad (r : Option Nat × Nat) (w : Int32) : Int32 := match r.1 with
  | none => -4
  | some c => if w = 0 then nI c else nI r.2
/-- how much NAME comes in n days of q, beyond that of p -/
def nb (p q : pw) (n : Nat) : Nat := (pw_days q n).2.2 9 - p.2.2 9
def Tg (g : Nat) (f : Nat → Bool) : Bool := f g
def Tn (f0 f : Nat → Bool) : Bool := (f 0 && !f0 0) || (f 1 && !f0 1) || (f 2 && !f0 2) || (f 3 && !f0 3)
def pw_ex (p : pw) (i e : Nat) : pw := pw_f (pw_a p 4 i e) 7 (max (p.2.2 7) (i + 1))
def pw_sw (p : pw) (i j : Nat) : pw := pw_a (pw_a p 4 i (p.1 4 j)) 4 j (p.1 4 i)
def sp_runs (S : pS) (n w : Int32) : Int32 := if (ix_in n 60 && ix_in w 4) = true then (if w = 4 then fp (Tn S.1.1.2.1) S.1.1 (nat n + 1) 0 else if w = 0 then nI ((pw_days S.1.1 (nat n)).2.2 9) - nI (S.1.1.2.2 9) else if w = 1 then nI (pw_bits (pw_days S.1.1 (nat n)).2.1) else if w = 2 then nI (pw_bits (fun q => decide (q < S.1.1.2.2 6) && pw_cold (pw_days S.1.1 (nat n)) q)) else nI ((pw_days S.1.1 (nat n)).2.2 8)) else -1
def sp_ahead (S : pS) (g n w : Int32) : Int32 := if (isG S g && (ix_in n 60 && ix_in w 1)) = true then (if w = 0 then nI ((pw_days S.1.1 (nat n)).1 2 (nat g)) else nI ((pw_days S.1.1 (nat n)).1 3 (nat g))) else -1
def sp_meets (S : pS) (g : Int32) : Int32 := if isG S g = true then fp (Tg (nat g)) S.1.1 61 0 else -1
def sp_place (S : pS) (i n w : Int32) : Int32 := if (isC S i && (ix_in n 60 && ix_in w 1)) = true then aq (jqs (fun e => pw_count (pw_days (pw_ex S.1.1 (nat i) e) (nat n)).2.1) 12) w else -1
def sp_extra (S : pS) (n w : Int32) : Int32 := if (ix_in n 60 && ix_in w 1) = true then (if 6 ≤ S.1.1.2.2 7 then -3 else aq (jqs (fun e => pw_count (pw_days (pw_ex S.1.1 (S.1.1.2.2 7) e) (nat n)).2.1) 12) w) else -1
def sp_swap (S : pS) (n w : Int32) : Int32 := if (ix_in n 60 && ix_in w 1) = true then ad (swO (fun i j => nb S.1.1 (pw_sw S.1.1 i j) (nat n)) (S.1.1.2.2 7) (nb S.1.1 S.1.1 (nat n)) (S.1.1.2.2 7)) w else -1
def sp_shun (S : pS) (n w : Int32) : Int32 := if (ix_in n 60 && ix_in w 1) = true then ad (jds (fun i => nb S.1.1 (pw_shun S.1.1 i) (nat n)) (nb S.1.1 S.1.1 (nat n)) (S.1.1.2.2 7)) w else -1
def sp_need (S : pS) (g n : Int32) : Int32 := if (isG S g && ix_in n 60) = true then fp (Tg (nat g)) (pw_a S.1.1 3 (nat g) 20) (nat n + 1) 0 else -1
def sp_kind (S : pS) (g n w : Int32) : Int32 := if (isG S g && (ix_in n 60 && ix_in w 1)) = true then aq (jqs (fun k => nb S.1.1 (pw_a S.1.1 1 (nat g) k) (nat n)) 4) w else -1
def sp_drop (S : pS) (g n w : Int32) : Int32 := if (isG S g && (ix_in n 60 && ix_in w 1)) = true then (if S.1.1.2.1 (nat g) = true then -2 else aq (jqs (fun k => nb S.1.1 (pw_a S.1.1 2 (nat g) k) (nat n)) 12) w) else -1
/-! NAME never falls -/
theorem pw_glove_name {p : pw} (h : p.2.2 9 ≤ 9999) (g : Nat) : p.2.2 9 ≤ (pw_glove p g).2.2 9 ∧ (pw_glove p g).2.2 9 ≤ 9999 := by
  unfold pw_glove
  split
  · exact ⟨Nat.le_refl _, h⟩
  · split
    · exact ⟨Nat.le_refl _, h⟩
    · split
      · exact ⟨Nat.le_refl _, h⟩
      · show p.2.2 9 ≤ (if (9 : Nat) = 9 then min (p.2.2 9 + p.1 0 (pw_step p g)) 9999 else p.2.2 9) ∧ (if (9 : Nat) = 9 then min (p.2.2 9 + p.1 0 (pw_step p g)) 9999 else p.2.2 9) ≤ 9999
        simp only [if_true]
        omega
theorem pw_gloves_name {p : pw} (h : p.2.2 9 ≤ 9999) (n : Nat) : p.2.2 9 ≤ (pw_gloves p n).2.2 9 ∧ (pw_gloves p n).2.2 9 ≤ 9999 := by
  induction n with
  | zero => exact ⟨Nat.le_refl _, h⟩
  | succ n ih =>
    have := pw_glove_name ih.2 n
    exact ⟨Nat.le_trans ih.1 this.1, this.2⟩
theorem pw_day_name {p : pw} (h : p.2.2 9 ≤ 9999) (d : Nat) : p.2.2 9 ≤ (pw_day p d).2.2 9 ∧ (pw_day p d).2.2 9 ≤ 9999 := by
  have := pw_gloves_name (p := pw_f p 8 d) h (p.2.2 6)
  exact this
theorem pw_days_name {p : pw} (h : p.2.2 9 ≤ 9999) (n : Nat) : p.2.2 9 ≤ (pw_days p n).2.2 9 ∧ (pw_days p n).2.2 9 ≤ 9999 := by
  induction n generalizing p with
  | zero => exact ⟨Nat.le_refl _, h⟩
  | succ n ih =>
    have h1 := pw_day_name h (pw_next p)
    have h2 := ih h1.2
    exact ⟨Nat.le_trans h1.1 h2.1, h2.2⟩
/-! bits asked by a mask -/
theorem tg_all : ∀ b0 b1 b2 b3 : Bool, ∀ j, j < 4 → (nI (b0.toNat + 2 * b1.toNat + 4 * b2.toNat + 8 * b3.toNat) &&& (nI 1 <<< (nI j &&& 31)) = 0 ↔ (if j = 0 then b0 else if j = 1 then b1 else if j = 2 then b2 else b3) = false) := by decide +kernel
theorem tg_m (f : Nat → Bool) {j : Nat} (hj : j < 4) : nI (pw_bits f) &&& (nI 1 <<< (nI j &&& 31)) = 0 ↔ Tg j f = false := by
  have h := tg_all (f 0) (f 1) (f 2) (f 3) j hj
  rcases (show j = 0 ∨ j = 1 ∨ j = 2 ∨ j = 3 by omega) with rfl | rfl | rfl | rfl <;> exact h
theorem tn_all : ∀ b0 b1 b2 b3 a0 a1 a2 a3 : Bool, (nI (b0.toNat + 2 * b1.toNat + 4 * b2.toNat + 8 * b3.toNat) &&& (nI (a0.toNat + 2 * a1.toNat + 4 * a2.toNat + 8 * a3.toNat) ^^^ (-1)) = 0 ↔ ((b0 && !a0) || (b1 && !a1) || (b2 && !a2) || (b3 && !a3)) = false) := by decide +kernel
theorem tn_m (f0 f : Nat → Bool) : nI (pw_bits f) &&& (nI (pw_bits f0) ^^^ (-1)) = 0 ↔ Tn f0 f = false := tn_all _ _ _ _ _ _ _ _
theorem pw_a_ok {p : pw} (h : pOk p) {k j x : Nat} (hk : (k = 0 ∧ x ≤ 9) ∨ (k = 1 ∧ x ≤ 3) ∨ (k = 2 ∧ x ≤ 11) ∨ (k = 3 ∧ x ≤ 20) ∨ (k = 4 ∧ x ≤ 11)) : pOk (pw_a p k j x) := by
  obtain ⟨h1, h2, h3, h4, h5, h6, h7, h8⟩ := h
  have key : ∀ k' j' b, p.1 k' j' ≤ b → (k' = k → x ≤ b) → (pw_a p k j x).1 k' j' ≤ b := by
    intro k' j' b hb hx
    show (if k' = k ∧ j' = j then x else p.1 k' j') ≤ b
    split
    · next e => exact hx e.1
    · exact hb
  exact ⟨fun q hq => key 0 q 9 (h1 q hq) (by omega), fun q hq => ⟨key 1 q 3 (h2 q hq).1 (by omega), key 2 q 11 (h2 q hq).2.1 (by omega), key 3 q 20 (h2 q hq).2.2 (by omega)⟩, fun q hq => key 4 q 11 (h3 q hq) (by omega), h4, h5, h6, h7, h8⟩
theorem pw_ex_ok {p : pw} (h : pOk p) {i e : Nat} (hi : i ≤ p.2.2 7) (hi6 : i < 6) (he : e ≤ 11) : pOk (pw_ex p i e) := by
  obtain ⟨h1, h2, h3, h4, h5, h6, h7, h8⟩ := pw_a_ok h (k := 4) (j := i) (x := e) (by omega)
  have e7 : (pw_a p 4 i e).2.2 7 = p.2.2 7 := rfl
  refine ⟨h1, h2, fun q hq => ?_, h4, h5, ?_, h7, h8⟩
  · have hq : q < max (p.2.2 7) (i + 1) := hq
    rcases Nat.lt_or_ge q (p.2.2 7) with z | z
    · exact h3 q z
    · have eq : q = i := by omega
      show (if 4 = 4 ∧ q = i then e else p.1 4 q) ≤ 11
      rw [if_pos ⟨rfl, eq⟩]
      exact he
  · show max (p.2.2 7) (i + 1) ≤ 6
    rw [e7] at h6
    omega
theorem pw_shun_ok {p : pw} (h : pOk p) {i : Nat} (hi : i < p.2.2 7) : pOk (pw_shun p i) := by
  obtain ⟨h1, h2, h3, h4, h5, h6, h7, h8⟩ := h
  refine ⟨fun q hq => ?_, fun q hq => ?_, fun q hq => ?_, h4, h5, ?_, h7, h8⟩
  · show (if 0 = 4 ∧ i ≤ q ∧ q < p.2.2 7 - 1 then p.1 4 (q + 1) else p.1 0 q) ≤ 9
    rw [if_neg (by omega)]; exact h1 q hq
  · refine ⟨?_, ?_, ?_⟩
    · show (if 1 = 4 ∧ i ≤ q ∧ q < p.2.2 7 - 1 then p.1 4 (q + 1) else p.1 1 q) ≤ 3
      rw [if_neg (by omega)]; exact (h2 q hq).1
    · show (if 2 = 4 ∧ i ≤ q ∧ q < p.2.2 7 - 1 then p.1 4 (q + 1) else p.1 2 q) ≤ 11
      rw [if_neg (by omega)]; exact (h2 q hq).2.1
    · show (if 3 = 4 ∧ i ≤ q ∧ q < p.2.2 7 - 1 then p.1 4 (q + 1) else p.1 3 q) ≤ 20
      rw [if_neg (by omega)]; exact (h2 q hq).2.2
  · have hq : q < p.2.2 7 - 1 := hq
    show (if 4 = 4 ∧ i ≤ q ∧ q < p.2.2 7 - 1 then p.1 4 (q + 1) else p.1 4 q) ≤ 11
    split
    · exact h3 _ (by omega)
    · exact h3 _ (by omega)
  · show p.2.2 7 - 1 ≤ 6
    omega
theorem pw_sw_ok {p : pw} (h : pOk p) {i j : Nat} (hi : i < p.2.2 7) (hj : j < p.2.2 7) : pOk (pw_sw p i j) := pw_a_ok (pw_a_ok h (by have := h.2.2.1 j hj; omega)) (by have := h.2.2.1 i hi; omega)
