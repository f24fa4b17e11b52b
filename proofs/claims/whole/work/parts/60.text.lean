/-! ===== the text, in plain numbers ===== -/
def isL (c : Nat) : Bool := decide (97 ≤ c) && decide (c ≤ 122)
def isF (c : Nat) : Bool := decide (48 ≤ c) && decide (c ≤ 57)
def isB (c : Nat) : Bool := decide (c = 32)
def spn (P : Nat → Bool) (t : Nat → Nat) : Nat → Nat → Nat
  | 0, i => i
  | m + 1, i => if P (t i) = true then spn P t m (i + 1) else i
def tn (P : Nat → Bool) (t : Nat → Nat) (L i : Nat) : Nat := spn P t (L - i) i
abbrev tb (t : Nat → Nat) (L i : Nat) : Nat := tn isB t L i
def nv (t : Nat → Nat) (b : Nat) : Nat → Nat
  | 0 => 0
  | m + 1 => 10 * nv t b m + (t (b + m) - 48)
def tkb (t : Nat → Nat) (L b : Nat) : Nat × Nat × Nat := if L ≤ b then (0, b, 0) else if t b = 59 then (3, b + 1, 0) else if isL (t b) = true then (1, tn isL t L b, 0) else if isF (t b) = true then (if tn isF t L b - b ≤ 2 then (2, tn isF t L b, nv t b (tn isF t L b - b)) else (4, 0, 0)) else (4, 0, 0)
def tk (t : Nat → Nat) (L i : Nat) : Nat × Nat × Nat := tkb t L (tb t L i)
def wsp (i : Nat) : List Nat := ([[115, 105, 103, 110, 101, 114], [100, 97, 110, 99, 101, 114], [115, 104, 121], [98, 111, 108, 100], [102, 97, 109, 101], [114, 111, 117, 116, 101], [109, 97, 110]] : List (List Nat)).getD i []
def eqs (t : Nat → Nat) : Nat → List Nat → Bool
  | _, [] => true
  | b, c :: l => decide (t b = c) && eqs t (b + 1) l
def spl (t : Nat → Nat) (b n i : Nat) : Bool := decide (n - b = (wsp i).length) && eqs t b (wsp i)
def wdf (t : Nat → Nat) (b n : Nat) : Nat → Nat → Nat
  | 0, _ => 7
  | m + 1, i => if spl t b n i = true then i else wdf t b n m (i + 1)
def wd (t : Nat → Nat) (b n : Nat) : Nat := wdf t b n 7 0
abbrev pE : Type := Nat × Nat
def tNum (t : Nat → Nat) (L most i : Nat) : pE ⊕ (Nat × Nat) := if (tk t L i).1 = 4 then .inl (1, tb t L i) else if ¬ (tk t L i).1 = 2 then .inl (2, tb t L i) else if most < (tk t L i).2.2 then .inl (3, tb t L i) else .inr ((tk t L i).2.1, (tk t L i).2.2)
def tMark (t : Nat → Nat) (L i : Nat) : pE ⊕ Nat := if (tk t L i).1 = 4 then .inl (1, tb t L i) else if ¬ (tk t L i).1 = 3 then .inl (2, tb t L i) else .inr (tk t L i).2.1
def tNums (t : Nat → Nat) (L most N : Nat) : Nat → Nat → Nat → (Nat → Nat) → pE ⊕ (Nat × Nat × (Nat → Nat))
  | 0, i, j, r => .inr (i, j, r)
  | m + 1, i, j, r => if (tk t L i).1 = 4 then .inl (1, tb t L i) else if ¬ (tk t L i).1 = 2 then .inr (i, j, r) else if N ≤ j then .inl (5, tb t L i) else if most < (tk t L i).2.2 then .inl (3, tb t L i) else tNums t L most N m (tk t L i).2.1 (j + 1) (fun q => if q = j then (tk t L i).2.2 else r q)
def bnd {α β : Type} (x : pE ⊕ α) (f : α → pE ⊕ β) : pE ⊕ β := match x with
  | .inl e => .inl e
  | .inr y => f y
def pw_r (p : pw) (k : Nat) (r : Nat → Nat) : pw := (fun k' j' => if k' = k then r j' else p.1 k' j', p.2)
def pw_gl (p : pw) (k a w : Nat) : pw := pw_f (pw_a (pw_a (pw_a p 1 (p.2.2 6) k) 2 (p.2.2 6) a) 3 (p.2.2 6) w) 6 (p.2.2 6 + 1)
def tGlv (t : Nat → Nat) (L : Nat) (D : pw) (w n : Nat) : pE ⊕ (Nat × pw) := bnd (tNum t L 11 n) fun x => bnd (tNum t L 20 x.1) fun y => .inr (y.1, pw_gl D w x.2 y.2)
def tFam (t : Nat → Nat) (L : Nat) (D : pw) (n : Nat) : pE ⊕ (Nat × pw) := bnd (tNums t L 9 12 13 n 0 (D.1 0)) fun x => .inr (x.1, pw_r D 0 x.2.2)
def tRou (t : Nat → Nat) (L : Nat) (D : pw) (n : Nat) : pE ⊕ (Nat × pw) := bnd (tNums t L 11 6 7 n 0 (D.1 4)) fun x => .inr (x.1, pw_f (pw_r D 4 x.2.2) 7 x.2.1)
def tMan (t : Nat → Nat) (L : Nat) (D : pw) (n : Nat) : pE ⊕ (Nat × pw) := bnd (tNum t L 11 n) fun x => .inr (x.1, pw_f D 8 x.2)
def tOf (t : Nat → Nat) (L : Nat) (D : pw) (w n : Nat) : pE ⊕ (Nat × pw) := if w = 4 then tFam t L D n else if w = 5 then tRou t L D n else if w = 6 then tMan t L D n else tGlv t L D w n
def tHead (D : pw) (td : Nat → Bool) (w b : Nat) : Option pE := if 7 ≤ w then some (2, b) else if w < 4 then (if 4 ≤ D.2.2 6 then some (5, b) else none) else if td w = true then some (4, b) else none
def tLine (t : Nat → Nat) (L : Nat) (D : pw) (td : Nat → Bool) (w b n : Nat) : pE ⊕ (Nat × pw) := match tHead D td w b with
  | some e => .inl e
  | none => bnd (tOf t L D w n) fun x => bnd (tMark t L x.1) fun n1 => .inr (n1, x.2)
def tdn (td : Nat → Bool) (w : Nat) : Nat → Bool := fun q => if q = w then true else td q
def tw (t : Nat → Nat) (L i : Nat) : Nat := if (tk t L i).1 = 1 then wd t (tb t L i) (tk t L i).2.1 else 7
def tAll (t : Nat → Nat) (L : Nat) : Nat → Nat → Nat → pw → (Nat → Bool) → pE ⊕ (Nat × pw)
  | 0, l, _, D, _ => .inr (l, D)
  | m + 1, l, i, D, td => if (tk t L i).1 = 4 then .inl (1, tb t L i) else if (tk t L i).1 = 0 then .inr (l, D) else bnd (tLine t L D td (tw t L i) (tb t L i) (tk t L i).2.1) fun x => tAll t L m (l + 1) x.1 x.2 (tdn td (tw t L i))
def D0 : pw := (fun _ _ => 0, fun _ => false, fun _ => 0)
def parse (t : Nat → Nat) (L : Nat) : pE ⊕ (Nat × pw) := tAll t L 161 0 0 D0 (fun _ => false)
def sp_text (S : pS) : Int32 × pS := match parse S.2.2.2.1.1 S.2.2.2.1.2 with
  | .inl e => (-10 - nI e.2, pS_f (pS_t S (S.2.2.2.1.1, 0)) 0 e.1)
  | .inr x => (nI x.1, pS_f ((x.2, (S.1.2.1, 0)), (fun _ => false), S.2.2.1, (S.2.2.2.1.1, 0), S.2.2.2.2) 0 0)
theorem spn_ge (P : Nat → Bool) (t : Nat → Nat) (m i : Nat) : i ≤ spn P t m i ∧ spn P t m i ≤ i + m := by
  induction m generalizing i with
  | zero => exact ⟨Nat.le_refl _, Nat.le_refl _⟩
  | succ m ih =>
    show i ≤ (if P (t i) = true then spn P t m (i + 1) else i) ∧ (if P (t i) = true then spn P t m (i + 1) else i) ≤ i + (m + 1)
    have := ih (i + 1)
    split <;> omega
theorem tn_ge (P : Nat → Bool) (t : Nat → Nat) {L i : Nat} (h : i ≤ L) : i ≤ tn P t L i ∧ tn P t L i ≤ L := by
  have := spn_ge P t (L - i) i
  unfold tn
  omega
theorem tn_t {P : Nat → Bool} {t : Nat → Nat} {L i : Nat} (h : i < L) (hp : P (t i) = true) : tn P t L i = tn P t L (i + 1) := by
  unfold tn
  rw [show L - i = (L - (i + 1)) + 1 by omega]
  show (if P (t i) = true then spn P t (L - (i + 1)) (i + 1) else i) = _
  rw [if_pos hp]
theorem tn_f {P : Nat → Bool} {t : Nat → Nat} {L i : Nat} (h : L ≤ i ∨ P (t i) = false) : tn P t L i = i := by
  unfold tn
  cases hm : L - i with
  | zero => rfl
  | succ m =>
    show (if P (t i) = true then spn P t m (i + 1) else i) = i
    rcases h with h | h
    · omega
    · rw [if_neg (by rw [h]; decide)]
theorem tn_lt {P : Nat → Bool} {t : Nat → Nat} {L i : Nat} (h : i < L) (hp : P (t i) = true) : i < tn P t L i := by
  rw [tn_t h hp]
  have := (tn_ge P t (L := L) (i := i + 1) (by omega)).1
  omega
theorem tkb_le {t : Nat → Nat} {L b : Nat} (h : b ≤ L) : (¬ (tkb t L b).1 = 4 → b ≤ (tkb t L b).2.1 ∧ (tkb t L b).2.1 ≤ L) ∧ (¬ (tkb t L b).1 = 4 → ¬ (tkb t L b).1 = 0 → b < (tkb t L b).2.1) ∧ (tkb t L b).1 ≤ 4 := by
  unfold tkb
  by_cases h1 : L ≤ b
  · rw [if_pos h1]; exact ⟨fun _ => ⟨Nat.le_refl _, h⟩, fun _ q => absurd rfl q, Nat.le_of_ble_eq_true rfl⟩
  · rw [if_neg h1]
    by_cases h2 : t b = 59
    · rw [if_pos h2]; exact ⟨fun _ => ⟨Nat.le_succ _, by show b + 1 ≤ L; omega⟩, fun _ _ => Nat.lt_succ_self _, Nat.le_of_ble_eq_true rfl⟩
    · rw [if_neg h2]
      by_cases h3 : isL (t b) = true
      · rw [if_pos h3]; exact ⟨fun _ => tn_ge _ _ h, fun _ _ => tn_lt (by omega) h3, Nat.le_of_ble_eq_true rfl⟩
      · rw [if_neg h3]
        by_cases h4 : isF (t b) = true
        · rw [if_pos h4]
          by_cases h5 : tn isF t L b - b ≤ 2
          · rw [if_pos h5]; exact ⟨fun _ => tn_ge _ _ h, fun _ _ => tn_lt (by omega) h4, Nat.le_of_ble_eq_true rfl⟩
          · rw [if_neg h5]; exact ⟨fun q => absurd rfl q, fun q => absurd rfl q, Nat.le_of_ble_eq_true rfl⟩
        · rw [if_neg h4]; exact ⟨fun q => absurd rfl q, fun q => absurd rfl q, Nat.le_of_ble_eq_true rfl⟩
theorem tb_le (t : Nat → Nat) {L i : Nat} (h : i ≤ L) : i ≤ tb t L i ∧ tb t L i ≤ L := tn_ge _ _ h
theorem tk_le {t : Nat → Nat} {L i : Nat} (h : i ≤ L) (h4 : ¬ (tk t L i).1 = 4) : tb t L i ≤ (tk t L i).2.1 ∧ (tk t L i).2.1 ≤ L := (tkb_le (tb_le t h).2).1 h4
theorem tk_lt {t : Nat → Nat} {L i : Nat} (h : i ≤ L) (h4 : ¬ (tk t L i).1 = 4) (h0 : ¬ (tk t L i).1 = 0) : i < (tk t L i).2.1 := Nat.lt_of_le_of_lt (tb_le t h).1 ((tkb_le (tb_le t h).2).2.1 h4 h0)
theorem nv_le {t : Nat → Nat} {b m : Nat} (h : ∀ q, q < m → isF (t (b + q)) = true) (hm : m ≤ 2) : nv t b m ≤ 99 := by
  have h1 : ∀ q, q < m → t (b + q) - 48 ≤ 9 := fun q hq => by
    have := h q hq
    unfold isF at this
    rw [Bool.and_eq_true, decide_eq_true_eq, decide_eq_true_eq] at this
    omega
  rcases (show m = 0 ∨ m = 1 ∨ m = 2 by omega) with rfl | rfl | rfl
  · exact Nat.zero_le _
  · have := h1 0 (by decide)
    show 10 * 0 + (t (b + 0) - 48) ≤ 99
    omega
  · have := h1 0 (by decide)
    have := h1 1 (by decide)
    show 10 * (10 * 0 + (t (b + 0) - 48)) + (t (b + 1) - 48) ≤ 99
    omega
theorem spn_in {P : Nat → Bool} {t : Nat → Nat} (m i : Nat) : ∀ q, i ≤ q → q < spn P t m i → P (t q) = true := by
  induction m generalizing i with
  | zero => intro q h1 h2; have h2 : q < i := h2; omega
  | succ m ih =>
    intro q h1 h2
    have h2 : q < (if P (t i) = true then spn P t m (i + 1) else i) := h2
    by_cases hp : P (t i) = true
    · rw [if_pos hp] at h2
      by_cases e : q = i
      · rw [e]; exact hp
      · exact ih (i + 1) q (by omega) h2
    · rw [if_neg hp] at h2; omega
theorem tk_num {t : Nat → Nat} {L i : Nat} : (tk t L i).2.2 ≤ 99 := by
  unfold tk tkb
  split
  · exact Nat.zero_le _
  · split
    · exact Nat.zero_le _
    · split
      · exact Nat.zero_le _
      · split
        · split
          · next h5 => exact nv_le (fun q hq => spn_in (P := isF) (t := t) (L - tb t L i) (tb t L i) (tb t L i + q) (by omega) (by show _ < tn isF t L (tb t L i); omega)) h5
          · exact Nat.zero_le _
        · exact Nat.zero_le _
