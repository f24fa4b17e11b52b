/-! ===== the whole state in plain numbers; what class and reference hold of it ===== -/
/-- what was SEEN: rows (0 day, 1 glove, 2 door), how many -/
abbrev ps : Type := (Nat → Nat → Nat) × Nat
abbrev pI : Type := pw × ps
/-- now and SEEN; which images are kept, the images; the tape; faults (0 of the text, 1 of read); sheets (cells, lane (9: nothing), size) -/
abbrev pS : Type := pI × (Nat → Bool) × (Nat → pI) × ((Nat → Nat) × Nat) × (Nat → Nat) × (Nat → (Nat → Int32) × Nat × Nat)
def pS_p (S : pS) (p : pw) : pS := ((p, S.1.2), S.2)
def pS_s (S : pS) (s : ps) : pS := ((S.1.1, s), S.2)
def pS_t (S : pS) (t : (Nat → Nat) × Nat) : pS := (S.1, S.2.1, S.2.2.1, t, S.2.2.2.2)
def pS_f (S : pS) (k x : Nat) : pS := (S.1, S.2.1, S.2.2.1, S.2.2.2.1, (fun q => if q = k then x else S.2.2.2.2.1 q), S.2.2.2.2.2)
def pS_h (S : pS) (k : Nat) (x : (Nat → Int32) × Nat × Nat) : pS := (S.1, S.2.1, S.2.2.1, S.2.2.2.1, S.2.2.2.2.1, fun q => if q = k then x else S.2.2.2.2.2 q)
def coh (p : pw) : Prop := ∀ j, j < p.2.2 6 → p.2.1 j = true → p.1 2 j = p.2.2 8
def sOk (s : ps) (gl : Nat) : Prop := s.2 ≤ 6 ∧ ∀ j, j < s.2 → s.1 0 j ≤ 20 ∧ s.1 1 j < gl ∧ s.1 2 j ≤ 11
def iOk (i : pI) : Prop := pOk i.1 ∧ coh i.1 ∧ i.1.2.2 10 ≤ 999 ∧ sOk i.2 (i.1.2.2 6)
def SOk (S : pS) : Prop := iOk S.1 ∧ (∀ k, k < 2 → S.2.1 k = true → iOk (S.2.2.1 k) ∧ (S.2.2.1 k).1.2.2 6 = S.1.1.2.2 6) ∧ (S.2.2.2.1.2 ≤ 160 ∧ ∀ q, q < S.2.2.2.1.2 → S.2.2.2.1.1 q ≤ 127) ∧ ∀ k, k < 4 → (S.2.2.2.2.2 k).2.2 ≤ 40 ∧ ((S.2.2.2.2.2 k).2.1 ≤ 2 ∨ (S.2.2.2.2.2 k).2.1 = 9)
def sR (w : gs_Ob) (s : ps) : Prop := (∀ k, k < 3 → ∀ j, j < s.2 → w.1 k j = nI (s.1 k j)) ∧ w.2.1 3 = nI s.2
def cI (σ : gs_S) (a b : Nat) (i : pI) : Prop := wR (σ 5 a) i.1 ∧ sR (σ 2 b) i.2
def cR (σ : gs_S) (S : pS) : Prop := cI σ 0 0 S.1 ∧ (∀ k, k < 2 → (σ 0 k).2.1 2 = nI (S.2.1 k).toNat ∧ (S.2.1 k = true → cI σ (11 + k) (1 + k) (S.2.2.1 k))) ∧ ((∀ q, q < S.2.2.2.1.2 → (σ 3 0).1 0 q = nI (S.2.2.2.1.1 q)) ∧ (σ 3 0).2.1 1 = nI S.2.2.2.1.2) ∧ ((σ 6 0).2.1 7 = nI (S.2.2.2.2.1 0) ∧ (σ 6 0).2.1 8 = nI (S.2.2.2.2.1 1)) ∧ ∀ k, k < 4 → (∀ q, q < 40 → (σ 1 k).1 0 q = (S.2.2.2.2.2 k).1 q) ∧ (σ 1 k).2.1 1 = (if (S.2.2.2.2.2 k).2.1 = 9 then -1 else nI (S.2.2.2.2.2 k).2.1) ∧ (σ 1 k).2.1 2 = nI (S.2.2.2.2.2 k).2.2
def snR (a : Nat → Int32) (s : ps) : Prop := a 38 = nI s.2 ∧ ∀ j, j < s.2 → a (39 + 3 * j) = nI (s.1 0 j) ∧ a (39 + 3 * j + 1) = nI (s.1 1 j) ∧ a (39 + 3 * j + 2) = nI (s.1 2 j)
def mR (v : gs_Ob) (S : pS) : Prop := (aR (v.1 0) S.1.1 ∧ snR (v.1 0) S.1.2 ∧ v.2.1 3 = nI (S.1.1.2.2 6)) ∧ (∀ k, k < 2 → v.1 2 k = nI (S.2.1 k).toNat ∧ (S.2.1 k = true → aR (fun j => v.1 0 (57 * (k + 1) + j)) (S.2.2.1 k).1 ∧ snR (fun j => v.1 0 (57 * (k + 1) + j)) (S.2.2.1 k).2)) ∧ ((∀ q, q < S.2.2.2.1.2 → v.1 10 q = nI (S.2.2.2.1.1 q)) ∧ v.2.1 11 = nI S.2.2.2.1.2) ∧ (v.2.1 16 = nI (S.2.2.2.2.1 0) ∧ v.2.1 28 = nI (S.2.2.2.2.1 1)) ∧ ∀ k, k < 4 → (∀ q, q < 40 → v.1 27 (40 * k + q) = (S.2.2.2.2.2 k).1 q) ∧ v.1 25 k = (if (S.2.2.2.2.2 k).2.1 = 9 then -4 else nI (S.2.2.2.2.2 k).2.1) ∧ v.1 26 k = nI (S.2.2.2.2.2 k).2.2
/-- what the class uses for a while: the trial, the branches, the reader -/
def isScr (c i : Nat) : Prop := (c = 5 ∧ 1 ≤ i ∧ i ≤ 10) ∨ c = 4 ∨ (c = 5 ∧ i = 13)
theorem cI.same {σ τ : gs_S} {a b : Nat} {i : pI} (h : cI σ a b i) (h1 : τ 5 a = σ 5 a) (h2 : τ 2 b = σ 2 b) : cI τ a b i := by
  unfold cI
  rw [h1, h2]
  exact h
theorem cR.scr {σ τ : gs_S} {S : pS} (h : cR σ S) (ht : ∀ c i, ¬ isScr c i → τ c i = σ c i) : cR τ S := by
  obtain ⟨h1, h2, h3, h4, h5⟩ := h
  have e1 : ∀ a, a = 0 ∨ a = 11 ∨ a = 12 → τ 5 a = σ 5 a := fun a ha => ht 5 a (by unfold isScr; omega)
  have e2 : ∀ c i, c ≠ 5 → c ≠ 4 → τ c i = σ c i := fun c i a b => ht c i (by unfold isScr; omega)
  refine ⟨h1.same (e1 0 (by omega)) (e2 2 0 (by decide) (by decide)), fun k hk => ?_, ?_, ?_, fun k hk => ?_⟩
  · rw [e2 0 k (by decide) (by decide)]
    exact ⟨(h2 k hk).1, fun q => ((h2 k hk).2 q).same (e1 (11 + k) (by omega)) (e2 2 (1 + k) (by decide) (by decide))⟩
  · rw [e2 3 0 (by decide) (by decide)]; exact h3
  · rw [e2 6 0 (by decide) (by decide)]; exact h4
  · rw [e2 1 k (by decide) (by decide)]; exact h5 k hk
theorem cR.scr1 {σ : gs_S} {S : pS} (h : cR σ S) {c i : Nat} {w : gs_Ob} (hs : isScr c i) : cR (gs_set σ c i w) S := h.scr fun c' i' hn => gs_ne fun q => hn (by rw [q.1, q.2]; exact hs)
theorem cR.model {σ : gs_S} {S : pS} (h : cR σ S) {v : gs_Ob} : cR (gs_set σ 7 0 v) S := by
  obtain ⟨h1, h2, h3, h4, h5⟩ := h
  have e : ∀ c i, c ≠ 7 → gs_set σ 7 0 v c i = σ c i := fun c i hc => gs_neC hc
  refine ⟨h1.same (e 5 0 (by decide)) (e 2 0 (by decide)), fun k hk => ?_, ?_, ?_, fun k hk => ?_⟩
  · rw [e 0 k (by decide)]
    exact ⟨(h2 k hk).1, fun q => ((h2 k hk).2 q).same (e 5 (11 + k) (by decide)) (e 2 (1 + k) (by decide))⟩
  · rw [e 3 0 (by decide)]; exact h3
  · rw [e 6 0 (by decide)]; exact h4
  · rw [e 1 k (by decide)]; exact h5 k hk
theorem cR.now {σ : gs_S} {S : pS} (h : cR σ S) {w : gs_Ob} {p : pw} (hw : wR w p) : cR (gs_set σ 5 0 w) (pS_p S p) := by
  obtain ⟨h1, h2, h3, h4, h5⟩ := h
  have e : ∀ c i, ¬ (c = 5 ∧ i = 0) → gs_set σ 5 0 w c i = σ c i := fun c i hc => gs_ne hc
  refine ⟨⟨by rw [gs_same]; exact hw, by rw [e 2 0 (by omega)]; exact h1.2⟩, fun k hk => ?_, ?_, ?_, fun k hk => ?_⟩
  · rw [e 0 k (by omega)]
    exact ⟨(h2 k hk).1, fun q => ((h2 k hk).2 q).same (e 5 (11 + k) (by omega)) (e 2 (1 + k) (by omega))⟩
  · rw [e 3 0 (by omega)]; exact h3
  · rw [e 6 0 (by omega)]; exact h4
  · rw [e 1 k (by omega)]; exact h5 k hk
theorem cR.seen {σ : gs_S} {S : pS} (h : cR σ S) {w : gs_Ob} {s : ps} (hw : sR w s) : cR (gs_set σ 2 0 w) (pS_s S s) := by
  obtain ⟨h1, h2, h3, h4, h5⟩ := h
  have e : ∀ c i, ¬ (c = 2 ∧ i = 0) → gs_set σ 2 0 w c i = σ c i := fun c i hc => gs_ne hc
  refine ⟨⟨by rw [e 5 0 (by omega)]; exact h1.1, by rw [gs_same]; exact hw⟩, fun k hk => ?_, ?_, ?_, fun k hk => ?_⟩
  · rw [e 0 k (by omega)]
    exact ⟨(h2 k hk).1, fun q => ((h2 k hk).2 q).same (e 5 (11 + k) (by omega)) (e 2 (1 + k) (by omega))⟩
  · rw [e 3 0 (by omega)]; exact h3
  · rw [e 6 0 (by omega)]; exact h4
  · rw [e 1 k (by omega)]; exact h5 k hk
theorem cR.tape {σ : gs_S} {S : pS} (h : cR σ S) {w : gs_Ob} {t : (Nat → Nat) × Nat} (hw : (∀ q, q < t.2 → w.1 0 q = nI (t.1 q)) ∧ w.2.1 1 = nI t.2) : cR (gs_set σ 3 0 w) (pS_t S t) := by
  obtain ⟨h1, h2, h3, h4, h5⟩ := h
  have e : ∀ c i, c ≠ 3 → gs_set σ 3 0 w c i = σ c i := fun c i hc => gs_neC hc
  refine ⟨h1.same (e 5 0 (by decide)) (e 2 0 (by decide)), fun k hk => ?_, ?_, ?_, fun k hk => ?_⟩
  · rw [e 0 k (by decide)]
    exact ⟨(h2 k hk).1, fun q => ((h2 k hk).2 q).same (e 5 (11 + k) (by decide)) (e 2 (1 + k) (by decide))⟩
  · rw [gs_same]; exact hw
  · rw [e 6 0 (by decide)]; exact h4
  · rw [e 1 k (by decide)]; exact h5 k hk
/-! a heap with one object told -/
theorem J_eta {G : gx_G} {M : gx_M} {d kc ks : Nat} {Q : Option Value → gx_Hp → Prop} {pc : Nat} {lv : List (Nat × Value)} {st : List Value} {σ : gs_S} (c i : Nat) (k : gx_J G M d kc ks Q pc lv st (hp G (gs_set σ c i (σ c i)))) : gx_J G M d kc ks Q pc lv st (hp G σ) := by
  rw [gs_eta] at k
  exact k
theorem K_eta {G : gx_G} {y : MethodName} {M : gx_M} {d mc ms : Nat} {av : List Value} {Q : Option Value → gx_Hp → Prop} {σ : gs_S} (c i : Nat) (k : gx_K G y M d mc ms av (hp G (gs_set σ c i (σ c i))) Q) : gx_K G y M d mc ms av (hp G σ) Q := by
  rw [gs_eta] at k
  exact k
/-! a glove, a call, by its number -/
def isG (S : pS) (v : Int32) : Bool := !decide (S.1.1.2.2 6 = 0) && ix_in v (S.1.1.2.2 6 - 1)
def isC (S : pS) (v : Int32) : Bool := !decide (S.1.1.2.2 7 = 0) && ix_in v (S.1.1.2.2 7 - 1)
theorem ix1_of {v : Int32} {n : Nat} (h : (!decide (n = 0) && ix_in v (n - 1)) = true) (hn : n < 2 ^ 31) : ∃ j, j < n ∧ v = nI j := by
  simp only [Bool.and_eq_true, Bool.not_eq_true', decide_eq_false_iff_not] at h
  obtain ⟨j, hj, e⟩ := ix_of h.2 (by omega)
  exact ⟨j, by omega, e⟩
theorem isG_of {S : pS} {v : Int32} (h : isG S v = true) (hO : pOk S.1.1) : ∃ j, j < S.1.1.2.2 6 ∧ v = nI j := ix1_of h (by have := hO.2.2.2.2.1; omega)
theorem isC_of {S : pS} {v : Int32} (h : isC S v = true) (hO : pOk S.1.1) : ∃ j, j < S.1.1.2.2 7 ∧ v = nI j := ix1_of h (by have := hO.2.2.2.2.2.1; omega)
/-! what the calls answer, and what they leave behind -/
abbrev nat (v : Int32) : Nat := v.toNatClampNeg
def sp_feed (S : pS) (v : Int32) : Int32 × pS := if ix_in v 127 = true then (if 160 ≤ S.2.2.2.1.2 then (-3, S) else (nI (S.2.2.2.1.2 + 1), pS_t S ((fun q => if q = S.2.2.2.1.2 then nat v else S.2.2.2.1.1 q), S.2.2.2.1.2 + 1))) else (-1, S)
def sp_end (S : pS) (v : Int32) : Int32 × pS := if ix_in v S.2.2.2.1.2 = true then (nI S.2.2.2.1.2, pS_t S (S.2.2.2.1.1, nat v)) else (-1, S)
def sp_rule (S : pS) (w : Int32) : Int32 := if w = 0 then nI (S.1.1.2.2 6) else if w = 1 then nI (S.1.1.2.2 10) else if w = 2 then nI (S.1.1.2.2 8) else if w = 3 then nI (S.1.1.2.2 9) else if w = 4 then nI (pw_bits S.1.1.2.1) else if w = 5 then nI (pw_bits (fun q => decide (q < S.1.1.2.2 6) && pw_cold S.1.1 q)) else if w = 6 then nI (S.1.1.2.2 7) else -1
def sp_glove (S : pS) (v w : Int32) : Int32 := if isG S v = true then (if w = 0 then nI (S.1.1.1 1 (nat v)) else if w = 1 then nI (S.1.1.1 2 (nat v)) else if w = 2 then nI (S.1.1.1 3 (nat v)) else if w = 3 then nI (S.1.1.2.1 (nat v)).toNat else if w = 4 then nI (pw_far (S.1.1.1 2 (nat v)) (S.1.1.2.2 8)) else if w = 5 then nI (pw_step S.1.1 (nat v)) else -1) else -1
def sp_door (S : pS) (v w : Int32) : Int32 := if ix_in v 11 = true then (if w = 0 then nI (S.1.1.1 0 (nat v)) else if w = 1 then nI (pw_bits (fun q => decide (q < S.1.1.2.2 6) && (fun q => decide (S.1.1.1 2 q = nat v)) q)) else -1) else -1
def sp_stop (S : pS) (v : Int32) : Int32 := if isC S v = true then nI (S.1.1.1 4 (nat v)) else -1
def grb (w v : Int32) : Bool := if w = 0 then ix_in v 3 else if w = 1 then ix_in v 11 else if w = 2 then ix_in v 20 else false
/-- what alter() says against it -/
def sp_no (S : pS) (g w v : Int32) : Int32 := if (isG S g && grb w v) = true then (if w = 1 ∧ S.1.1.2.1 (nat g) = true then -2 else nI 0) else -1
def sp_alter (S : pS) (g w v : Int32) : Int32 × pS := if sp_no S g w v = nI 0 then (nI (S.1.1.1 (nat w + 1) (nat g)), pS_p S (pw_a S.1.1 (nat w + 1) (nat g) (nat v))) else (sp_no S g w v, S)
def sp_fame (S : pS) (e v : Int32) : Int32 × pS := if (ix_in e 11 && ix_in v 9) = true then (nI (S.1.1.1 0 (nat e)), pS_p S (pw_a S.1.1 0 (nat e) (nat v))) else (-1, S)
def sp_leave (S : pS) (g : Int32) : Int32 × pS := if isG S g = true then (if S.1.1.2.1 (nat g) = true then (nI (S.1.1.2.2 8), pS_p S (pw_b S.1.1 (nat g) false)) else (-2, S)) else (-1, S)
def sp_go (S : pS) (e : Int32) : Int32 × pS := if ix_in e 11 = true then (nI (S.1.1.2.2 8), pS_p S (pw_move S.1.1 (nat e))) else (-1, S)
def sp_call (S : pS) (e : Int32) : Int32 × pS := if ix_in e 11 = true then (if 6 ≤ S.1.1.2.2 7 then (-3, S) else (nI (S.1.1.2.2 7 + 1), pS_p S (pw_f (pw_a S.1.1 4 (S.1.1.2.2 7) (nat e)) 7 (S.1.1.2.2 7 + 1)))) else (-1, S)
def sp_cut (S : pS) (n : Int32) : Int32 × pS := if ix_in n (S.1.1.2.2 7) = true then (nI (S.1.1.2.2 7), pS_p S (pw_f S.1.1 7 (nat n))) else (-1, S)
def sp_days (S : pS) (n : Int32) : Int32 × pS := if ix_in n 30 = true then (if S.1.1.2.2 10 + nat n ≤ 999 then (nI ((pw_days S.1.1 (nat n)).2.2 9) - nI (S.1.1.2.2 9), pS_p S (pw_days S.1.1 (nat n))) else (-3, S)) else (-1, S)
theorem bx_all : ∀ b0 b1 b2 b3 : Bool, ∀ j, j < 4 → nI (b0.toNat + 2 * b1.toNat + 4 * b2.toNat + 8 * b3.toNat) &&& ((nI 1 <<< (nI j &&& 31)) ^^^ (-1)) = nI ((b0 && !decide (j = 0)).toNat + 2 * (b1 && !decide (j = 1)).toNat + 4 * (b2 && !decide (j = 2)).toNat + 8 * (b3 && !decide (j = 3)).toNat) := by decide +kernel
theorem bx_clr (f : Nat → Bool) {j : Nat} (hj : j < 4) : nI (pw_bits f) &&& ((nI 1 <<< (nI j &&& 31)) ^^^ (-1)) = nI (pw_bits (fun q => if q = j then false else f q)) := by
  unfold pw_bits
  rw [bx_all _ _ _ _ j hj]
  rcases (show j = 0 ∨ j = 1 ∨ j = 2 ∨ j = 3 by omega) with rfl | rfl | rfl | rfl <;> simp
theorem by_all : ∀ c, c < 128 → (nI c).toInt8.toInt32 = nI c := by decide +kernel
