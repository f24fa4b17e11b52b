/-! ===== a world of doors, gloves and a man, in plain numbers ===== -/
/-- rows (0 fame, 1 kind, 2 at, 3 warm, 4 route), who is paired, numbers (6 gloves, 7 calls, 8 man, 9 name, 10 day) -/
abbrev pw : Type := (Nat → Nat → Nat) × (Nat → Bool) × (Nat → Nat)
def pw_a (p : pw) (k j v : Nat) : pw := (fun k' j' => if k' = k ∧ j' = j then v else p.1 k' j', p.2)
def pw_b (p : pw) (j : Nat) (b : Bool) : pw := (p.1, fun j' => if j' = j then b else p.2.1 j', p.2.2)
def pw_f (p : pw) (k v : Nat) : pw := (p.1, p.2.1, fun k' => if k' = k then v else p.2.2 k')
def pw_bits (f : Nat → Bool) : Nat := (f 0).toNat + 2 * (f 1).toNat + 4 * (f 2).toNat + 8 * (f 3).toNat
def pw_count (f : Nat → Bool) : Nat := (f 0).toNat + (f 1).toNat + (f 2).toNat + (f 3).toNat
def pw_far (a b : Nat) : Nat := if (if a ≤ b then b - a else a - b) ≤ 12 - (if a ≤ b then b - a else a - b) then (if a ≤ b then b - a else a - b) else 12 - (if a ≤ b then b - a else a - b)
def pw_step (p : pw) (g : Nat) : Nat :=
  if p.1 1 g = 0 then (p.1 2 g + 1) % 12 else if p.1 1 g = 1 then (p.1 2 g + 2) % 12
  else if p.1 1 g = 2 then (if pw_far ((p.1 2 g + 1) % 12) (p.2.2 8) < pw_far ((p.1 2 g + 11) % 12) (p.2.2 8) then (p.1 2 g + 11) % 12 else (p.1 2 g + 1) % 12)
  else (if pw_far ((p.1 2 g + 11) % 12) (p.2.2 8) < pw_far ((p.1 2 g + 1) % 12) (p.2.2 8) then (p.1 2 g + 11) % 12 else (p.1 2 g + 1) % 12)
def pw_glove (p : pw) (g : Nat) : pw :=
  if p.2.1 g = true then pw_a (pw_a p 2 g (p.2.2 8)) 3 g (min (p.1 3 g + 1) 20)
  else if p.1 3 g = 0 then p
  else if pw_step p g = p.2.2 8 then pw_b (pw_a p 2 g (pw_step p g)) g true
  else pw_a (pw_f (pw_a p 2 g (pw_step p g)) 9 (min (p.2.2 9 + p.1 0 (pw_step p g)) 9999)) 3 g (p.1 3 g - 1)
def pw_gloves (p : pw) : Nat → pw
  | 0 => p
  | n + 1 => pw_glove (pw_gloves p n) n
def pw_day (p : pw) (d : Nat) : pw := pw_f (pw_gloves (pw_f p 8 d) (p.2.2 6)) 10 (p.2.2 10 + 1)
def pw_next (p : pw) : Nat := if 0 < p.2.2 7 then p.1 4 (p.2.2 10 % p.2.2 7) else p.2.2 8
def pw_days (p : pw) : Nat → pw
  | 0 => p
  | n + 1 => pw_days (pw_day p (pw_next p)) n
def pOk (p : pw) : Prop := (∀ j, j < 12 → p.1 0 j ≤ 9) ∧ (∀ j, j < p.2.2 6 → p.1 1 j ≤ 3 ∧ p.1 2 j ≤ 11 ∧ p.1 3 j ≤ 20) ∧ (∀ j, j < p.2.2 7 → p.1 4 j ≤ 11) ∧ (∀ j, p.2.2 6 ≤ j → p.2.1 j = false) ∧ p.2.2 6 ≤ 4 ∧ p.2.2 7 ≤ 6 ∧ p.2.2 8 ≤ 11 ∧ p.2.2 9 ≤ 9999
/-- the class' world holds it -/
def wR (w : gs_Ob) (p : pw) : Prop := (∀ j, j < 12 → w.1 0 j = nI (p.1 0 j)) ∧ (∀ j, j < p.2.2 6 → w.1 1 j = nI (p.1 1 j) ∧ w.1 2 j = nI (p.1 2 j) ∧ w.1 3 j = nI (p.1 3 j)) ∧ (∀ j, j < p.2.2 7 → w.1 4 j = nI (p.1 4 j)) ∧ w.2.1 5 = nI (pw_bits p.2.1) ∧ ∀ k, 6 ≤ k → k ≤ 10 → w.2.1 k = nI (p.2.2 k)
theorem pw_step_le (p : pw) (g : Nat) : pw_step p g ≤ 11 := by
  unfold pw_step
  split <;> (try split) <;> (try split) <;> (try split) <;> omega
theorem pw_bits_lt (f : Nat → Bool) : pw_bits f < 16 := by
  unfold pw_bits
  cases f 0 <;> cases f 1 <;> cases f 2 <;> cases f 3 <;> decide
theorem pw_glove_f (p : pw) (g k : Nat) (hk : k ≠ 9) : (pw_glove p g).2.2 k = p.2.2 k := by
  unfold pw_glove
  split
  · rfl
  · split
    · rfl
    · split
      · rfl
      · simp [pw_a, pw_f, hk]
theorem pw_glove_fame (p : pw) (g j : Nat) : (pw_glove p g).1 0 j = p.1 0 j := by
  unfold pw_glove
  split
  · simp [pw_a]
  · split
    · rfl
    · split <;> simp [pw_a, pw_b, pw_f]
theorem pw_glove_row (p : pw) (g j : Nat) : (pw_glove p g).1 4 j = p.1 4 j := by
  unfold pw_glove
  split
  · simp [pw_a]
  · split
    · rfl
    · split <;> simp [pw_a, pw_b, pw_f]
theorem pw_glove_ok {p : pw} (h : pOk p) {g : Nat} (hg : g < p.2.2 6) : pOk (pw_glove p g) := by
  obtain ⟨h1, h2, h3, h4, h5, h6, h7, h8⟩ := h
  have hs := pw_step_le p g
  have hw := h2 g hg
  unfold pw_glove
  split
  · refine ⟨fun j hj => ?_, fun j hj => ?_, fun j hj => ?_, h4, h5, h6, h7, h8⟩
    · simp [pw_a]; exact h1 j hj
    · simp only [pw_a]
      refine ⟨?_, ?_, ?_⟩
      · simp; exact (h2 j hj).1
      · by_cases e : j = g
        · subst e; simp; exact h7
        · simp [e]; exact (h2 j hj).2.1
      · by_cases e : j = g
        · subst e; simp; omega
        · simp [e]; exact (h2 j hj).2.2
    · simp [pw_a]; exact h3 j hj
  · split
    · exact ⟨h1, h2, h3, h4, h5, h6, h7, h8⟩
    · split
      · refine ⟨fun j hj => ?_, fun j hj => ?_, fun j hj => ?_, fun j hj => ?_, h5, h6, h7, h8⟩
        · simp [pw_a, pw_b]; exact h1 j hj
        · simp only [pw_a, pw_b]
          refine ⟨?_, ?_, ?_⟩
          · simp; exact (h2 j hj).1
          · by_cases e : j = g
            · subst e; simp; exact hs
            · simp [e]; exact (h2 j hj).2.1
          · simp; exact (h2 j hj).2.2
        · simp [pw_a, pw_b]; exact h3 j hj
        · have e : j ≠ g := by
            have hj' : p.2.2 6 ≤ j := hj
            omega
          simp [pw_b, pw_a, e]; exact h4 j hj
      · refine ⟨fun j hj => ?_, fun j hj => ?_, fun j hj => ?_, h4, h5, h6, h7, ?_⟩
        · simp [pw_a, pw_f]; exact h1 j hj
        · have hj' : j < p.2.2 6 := hj
          simp only [pw_a, pw_f]
          refine ⟨?_, ?_, ?_⟩
          · simp; exact (h2 j hj').1
          · by_cases e : j = g
            · subst e; simp; exact hs
            · simp [e]; exact (h2 j hj').2.1
          · by_cases e : j = g
            · subst e; simp; omega
            · simp [e]; exact (h2 j hj').2.2
        · have hj' : j < p.2.2 7 := hj
          simp [pw_a, pw_f]; exact h3 j hj'
        · show (if (9 : Nat) = 9 then min (p.2.2 9 + p.1 0 (pw_step p g)) 9999 else p.2.2 9) ≤ 9999
          simp; omega
theorem pw_gloves_f (p : pw) (n k : Nat) (hk : k ≠ 9) : (pw_gloves p n).2.2 k = p.2.2 k := by
  induction n with
  | zero => rfl
  | succ n ih => show (pw_glove (pw_gloves p n) n).2.2 k = _; rw [pw_glove_f _ _ _ hk, ih]
theorem pw_gloves_ok {p : pw} (h : pOk p) (n : Nat) (hn : n ≤ p.2.2 6) : pOk (pw_gloves p n) := by
  induction n with
  | zero => exact h
  | succ n ih => exact pw_glove_ok (ih (by omega)) (by rw [pw_gloves_f _ _ _ (by decide)]; omega)
theorem pw_f8_ok {p : pw} (h : pOk p) {d : Nat} (hd : d ≤ 11) : pOk (pw_f p 8 d) := ⟨h.1, h.2.1, h.2.2.1, h.2.2.2.1, h.2.2.2.2.1, h.2.2.2.2.2.1, hd, h.2.2.2.2.2.2.2⟩
theorem pw_f10_ok {p : pw} (h : pOk p) {d : Nat} : pOk (pw_f p 10 d) := ⟨h.1, h.2.1, h.2.2.1, h.2.2.2.1, h.2.2.2.2.1, h.2.2.2.2.2.1, h.2.2.2.2.2.2.1, h.2.2.2.2.2.2.2⟩
theorem pw_day_ok {p : pw} (h : pOk p) {d : Nat} (hd : d ≤ 11) : pOk (pw_day p d) := pw_f10_ok (pw_gloves_ok (pw_f8_ok h hd) _ (Nat.le_refl _))
theorem pw_day_f (p : pw) (d k : Nat) (h8 : k ≠ 8) (h9 : k ≠ 9) (h10 : k ≠ 10) : (pw_day p d).2.2 k = p.2.2 k := by
  show (if k = 10 then p.2.2 10 + 1 else (pw_gloves (pw_f p 8 d) (p.2.2 6)).2.2 k) = _
  rw [if_neg h10, pw_gloves_f _ _ _ h9]
  simp [pw_f, h8]
theorem pw_day_day (p : pw) (d : Nat) : (pw_day p d).2.2 10 = p.2.2 10 + 1 := by simp [pw_day, pw_f]
theorem pw_day_man (p : pw) (d : Nat) : (pw_day p d).2.2 8 = d := by
  have e : (pw_day p d).2.2 8 = (pw_gloves (pw_f p 8 d) (p.2.2 6)).2.2 8 := by simp [pw_day, pw_f]
  rw [e, pw_gloves_f _ _ _ (by decide)]
  simp [pw_f]
theorem pw_next_le {p : pw} (h : pOk p) : pw_next p ≤ 11 := by
  unfold pw_next
  split
  · next h0 => exact h.2.2.1 _ (Nat.mod_lt _ h0)
  · exact h.2.2.2.2.2.2.1
theorem pw_days_ok {p : pw} (h : pOk p) (n : Nat) : pOk (pw_days p n) := by
  induction n generalizing p with
  | zero => exact h
  | succ n ih => exact ih (pw_day_ok h (pw_next_le h))
theorem pw_days_f (p : pw) (n k : Nat) (h8 : k ≠ 8) (h9 : k ≠ 9) (h10 : k ≠ 10) : (pw_days p n).2.2 k = p.2.2 k := by
  induction n generalizing p with
  | zero => rfl
  | succ n ih => show (pw_days (pw_day p (pw_next p)) n).2.2 k = _; rw [ih, pw_day_f _ _ _ h8 h9 h10]
theorem pw_days_day (p : pw) (n : Nat) : (pw_days p n).2.2 10 = p.2.2 10 + n := by
  induction n generalizing p with
  | zero => rfl
  | succ n ih => show (pw_days (pw_day p (pw_next p)) n).2.2 10 = _; rw [ih, pw_day_day]; omega
theorem pw_days_add (p : pw) (a b : Nat) : pw_days p (a + b) = pw_days (pw_days p a) b := by
  induction a generalizing p with
  | zero => rw [Nat.zero_add]; rfl
  | succ n ih => rw [Nat.succ_add]; show pw_days (pw_day p (pw_next p)) (n + b) = _; rw [ih]; rfl
theorem pw_days_succ (p : pw) (n : Nat) : pw_days p (n + 1) = pw_day (pw_days p n) (pw_next (pw_days p n)) := by rw [pw_days_add]; rfl
/-! the class' world, written -/
theorem wR.fld {w : gs_Ob} {p : pw} (h : wR w p) (k v : Nat) (hk : 8 ≤ k) : wR (gs_f w k (nI v)) (pw_f p k v) := by
  obtain ⟨h1, h2, h3, h4, h5⟩ := h
  have e6 : (pw_f p k v).2.2 6 = p.2.2 6 := if_neg (by omega)
  have e7 : (pw_f p k v).2.2 7 = p.2.2 7 := if_neg (by omega)
  refine ⟨h1, fun j hj => h2 j (by rw [← e6]; exact hj), fun j hj => h3 j (by rw [← e7]; exact hj), ?_, fun m hm hm2 => ?_⟩
  · show upd w.2.1 k (nI v) 5 = _
    rw [pk_un (by omega)]; exact h4
  · show upd w.2.1 k (nI v) m = nI (if m = k then v else p.2.2 m)
    by_cases e : m = k
    · subst e; rw [pk_us, if_pos rfl]
    · rw [pk_un e, if_neg e]; exact h5 m hm hm2
theorem wR.row {w : gs_Ob} {p : pw} (h : wR w p) (k j v : Nat) : wR (gs_w w k (upd (w.1 k) j (nI v))) (pw_a p k j v) := by
  obtain ⟨h1, h2, h3, h4, h5⟩ := h
  have key : ∀ k' j', w.1 k' j' = nI (p.1 k' j') → va_up w.1 k (upd (w.1 k) j (nI v)) k' j' = nI ((pw_a p k j v).1 k' j') := by
    intro k' j' e
    show (if k' = k then upd (w.1 k) j (nI v) else w.1 k') j' = nI (if k' = k ∧ j' = j then v else p.1 k' j')
    by_cases ek : k' = k
    · subst ek
      rw [if_pos rfl]
      by_cases ej : j' = j
      · subst ej; rw [pk_us, if_pos ⟨rfl, rfl⟩]
      · rw [pk_un ej, if_neg (fun q => ej q.2)]; exact e
    · rw [if_neg ek, if_neg (fun q => ek q.1)]; exact e
  exact ⟨fun m hm => key 0 m (h1 m hm), fun m hm => ⟨key 1 m (h2 m hm).1, key 2 m (h2 m hm).2.1, key 3 m (h2 m hm).2.2⟩, fun m hm => key 4 m (h3 m hm), h4, h5⟩
theorem wR.pair {w : gs_Ob} {p : pw} (h : wR w p) (f : Nat → Bool) : wR (gs_f w 5 (nI (pw_bits f))) (p.1, f, p.2.2) := by
  obtain ⟨h1, h2, h3, h4, h5⟩ := h
  refine ⟨h1, h2, h3, ?_, fun m hm hm2 => ?_⟩
  · simp [gs_f, upd]
  · exact (pk_un (by omega)).trans (h5 m hm hm2)
/-! bits -/
theorem bt_all : ∀ b0 b1 b2 b3 : Bool, ∀ j, j < 4 → ((nI (b0.toNat + 2 * b1.toNat + 4 * b2.toNat + 8 * b3.toNat) >>> (nI j &&& 31)) &&& nI 1 = nI 1 ↔ (if j = 0 then b0 else if j = 1 then b1 else if j = 2 then b2 else b3) = true) := by decide +kernel
theorem bt_test (f : Nat → Bool) {j : Nat} (hj : j < 4) : ((nI (pw_bits f) >>> (nI j &&& 31)) &&& nI 1 = nI 1 ↔ f j = true) := by
  have h := bt_all (f 0) (f 1) (f 2) (f 3) j hj
  rcases (show j = 0 ∨ j = 1 ∨ j = 2 ∨ j = 3 by omega) with rfl | rfl | rfl | rfl <;> exact h
theorem bs_all : ∀ b0 b1 b2 b3 : Bool, ∀ j, j < 4 → nI (b0.toNat + 2 * b1.toNat + 4 * b2.toNat + 8 * b3.toNat) ||| (nI 1 <<< (nI j &&& 31)) = nI ((b0 || decide (j = 0)).toNat + 2 * (b1 || decide (j = 1)).toNat + 4 * (b2 || decide (j = 2)).toNat + 8 * (b3 || decide (j = 3)).toNat) := by decide +kernel
theorem bs_set (f : Nat → Bool) {j : Nat} (hj : j < 4) : nI (pw_bits f) ||| (nI 1 <<< (nI j &&& 31)) = nI (pw_bits (fun q => if q = j then true else f q)) := by
  unfold pw_bits
  rw [bs_all _ _ _ _ j hj]
  rcases (show j = 0 ∨ j = 1 ∨ j = 2 ∨ j = 3 by omega) with rfl | rfl | rfl | rfl <;> simp
