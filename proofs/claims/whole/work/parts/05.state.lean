/-! ===== the typed state: objects by class and number; the heap that holds it ===== -/
/-- arrays by field, ints by field, longs by field -/
abbrev gs_Ob : Type := (Nat → Nat → Int32) × (Nat → Int32) × (Nat → Int64)
abbrev gs_S : Type := Nat → Nat → gs_Ob
def gs_lay : List (Nat × Nat × Nat) := [(6, 0, 0), (5, 0, 0), (5, 0, 1), (5, 0, 2), (5, 0, 3), (5, 0, 4), (5, 0, 5), (2, 0, 0), (2, 0, 1), (2, 0, 2), (2, 0, 3), (5, 1, 0), (5, 1, 1), (5, 1, 2), (5, 1, 3), (5, 1, 4), (5, 1, 5), (6, 0, 4), (4, 0, 0), (3, 0, 0), (3, 0, 1), (5, 13, 0), (5, 13, 1), (5, 13, 2), (5, 13, 3), (5, 13, 4), (5, 13, 5), (6, 0, 6), (6, 0, 7), (5, 2, 0), (5, 2, 1), (5, 2, 2), (5, 2, 3), (5, 2, 4), (5, 2, 5), (5, 3, 0), (5, 3, 1), (5, 3, 2), (5, 3, 3), (5, 3, 4), (5, 3, 5), (5, 4, 0), (5, 4, 1), (5, 4, 2), (5, 4, 3), (5, 4, 4), (5, 4, 5), (5, 5, 0), (5, 5, 1), (5, 5, 2), (5, 5, 3), (5, 5, 4), (5, 5, 5), (5, 6, 0), (5, 6, 1), (5, 6, 2), (5, 6, 3), (5, 6, 4), (5, 6, 5), (5, 7, 0), (5, 7, 1), (5, 7, 2), (5, 7, 3), (5, 7, 4), (5, 7, 5), (5, 8, 0), (5, 8, 1), (5, 8, 2), (5, 8, 3), (5, 8, 4), (5, 8, 5), (5, 9, 0), (5, 9, 1), (5, 9, 2), (5, 9, 3), (5, 9, 4), (5, 9, 5), (5, 10, 0), (5, 10, 1), (5, 10, 2), (5, 10, 3), (5, 10, 4), (5, 10, 5), (0, 0, 0), (5, 11, 0), (5, 11, 1), (5, 11, 2), (5, 11, 3), (5, 11, 4), (5, 11, 5), (2, 1, 0), (2, 1, 1), (2, 1, 2), (2, 1, 3), (0, 1, 0), (5, 12, 0), (5, 12, 1), (5, 12, 2), (5, 12, 3), (5, 12, 4), (5, 12, 5), (2, 2, 0), (2, 2, 1), (2, 2, 2), (2, 2, 3), (1, 0, 0), (1, 0, 1), (1, 1, 0), (1, 1, 1), (1, 2, 0), (1, 2, 1), (1, 3, 0), (1, 3, 1), (7, 0, 0), (7, 0, 1), (7, 0, 2), (7, 0, 3), (7, 0, 5), (7, 0, 11), (7, 0, 24), (7, 0, 25), (7, 0, 26), (7, 0, 27), (7, 0, 28), (7, 0, 30)]
def gs_pos (c i q : Nat) : Nat := gs_lay.idxOf (c, i, q)
def gs_a (G : gx_G) (c i q : Nat) : Nat := gx_N G + gs_pos c i q
def gs_cnt (c : Nat) : Nat := match c with
  | 0 => 2
  | 1 => 4
  | 2 => 3
  | 3 => 1
  | 4 => 1
  | 5 => 14
  | 6 => 1
  | 7 => 1
  | _ => 0
def gs_flds (G : gx_G) (c i : Nat) (w : gs_Ob) : List Value := match c with
  | 0 => [.ref (gs_a G 5 (11 + i) 0), .ref (gs_a G 2 (1 + i) 0), .int (w.2.1 2)]
  | 1 => [.ref (gs_a G 1 i 1), .int (w.2.1 1), .int (w.2.1 2)]
  | 2 => [.ref (gs_a G 2 i 1), .ref (gs_a G 2 i 2), .ref (gs_a G 2 i 3), .int (w.2.1 3)]
  | 3 => [.ref (gs_a G 3 i 1), .int (w.2.1 1)]
  | 4 => [.ref (gs_a G 3 0 0), .ref (gs_a G 5 13 0), .int (w.2.1 2), .int (w.2.1 3), .int (w.2.1 4), .int (w.2.1 5), .int (w.2.1 6), .int (w.2.1 7), .int (w.2.1 8), .int (w.2.1 9)]
  | 5 => [.ref (gs_a G 5 i 1), .ref (gs_a G 5 i 2), .ref (gs_a G 5 i 3), .ref (gs_a G 5 i 4), .ref (gs_a G 5 i 5), .int (w.2.1 5), .int (w.2.1 6), .int (w.2.1 7), .int (w.2.1 8), .int (w.2.1 9), .int (w.2.1 10)]
  | 6 => [.ref (gs_a G 5 0 0), .ref (gs_a G 2 0 0), .ref (gs_a G 5 1 0), .ref (gs_a G 6 i 4), .ref (gs_a G 4 0 0), .ref (gs_a G 6 i 6), .ref (gs_a G 6 i 7), .int (w.2.1 7), .int (w.2.1 8)]
  | _ => [.ref (gs_a G 7 i 1), .ref (gs_a G 7 i 2), .ref (gs_a G 7 i 3), .int (w.2.1 3), .ref (gs_a G 7 i 5), .int (w.2.1 5), .int (w.2.1 6), .int (w.2.1 7), .int (w.2.1 8), .int (w.2.1 9), .ref (gs_a G 7 i 11), .int (w.2.1 11), .int (w.2.1 12), .int (w.2.1 13), .int (w.2.1 14), .int (w.2.1 15), .int (w.2.1 16), .int (w.2.1 17), .int (w.2.1 18), .int (w.2.1 19), .long (w.2.2 20), .long (w.2.2 21), .long (w.2.2 22), .ref (gs_a G 7 i 24), .ref (gs_a G 7 i 25), .ref (gs_a G 7 i 26), .ref (gs_a G 7 i 27), .ref (gs_a G 7 i 28), .int (w.2.1 28), .ref (gs_a G 7 i 30)]
def gs_len (c k : Nat) : Nat := match c, k with
  | 5, 0 => 12
  | 5, 1 => 4
  | 5, 2 => 4
  | 5, 3 => 4
  | 5, 4 => 6
  | 7, 0 => 171
  | 7, 1 => 57
  | 7, 4 => 57
  | 7, 10 => 160
  | 7, 23 => 84
  | 7, 24 => 84
  | 7, 25 => 4
  | 7, 26 => 4
  | 7, 27 => 160
  | 7, 29 => 57
  | 7, 2 => 2
  | 2, _ => 6
  | 1, _ => 40
  | 3, _ => 160
  | _, _ => 0
def gs_arr (G : gx_G) (c i : Nat) (w : gs_Ob) (k : Nat) : va_E := match c, k with
  | 6, 3 => .inl (G.2.1 3, 9, .inr (.inr (.inr (.inr (fun j => some (gs_a G 5 (2 + j) 0))))))
  | 6, 5 => .inl (G.2.1 4, 2, .inr (.inr (.inr (.inr (fun j => some (gs_a G 0 j 0))))))
  | 6, 6 => .inl (G.2.1 5, 4, .inr (.inr (.inr (.inr (fun j => some (gs_a G 1 j 0))))))
  | 3, k => .inl (G.2.1 1, 160, .inl (w.1 k))
  | 7, 2 => .inl (G.2.1 2, 2, .inl (w.1 2))
  | c, k => .inl (G.2.1 0, gs_len c k, .inl (w.1 k))
def gs_cell (G : gx_G) (σ : gs_S) (x : Nat × Nat × Nat) : va_E := match x with
  | (c, i, 0) => .inr (c, gs_flds G c i (σ c i))
  | (c, i, k + 1) => gs_arr G c i (σ c i) k
def hp0 (G : gx_G) (σ : gs_S) : gx_Hp := (gx_N G + 125, fun a => if a < gx_N G then none else (gs_lay[a - gx_N G]?).map (gs_cell G σ))
theorem hp_ex : ∃ F : gx_G → gs_S → gx_Hp, ∀ G σ, F G σ = hp0 G σ := ⟨hp0, fun _ _ => rfl⟩
noncomputable def hp : gx_G → gs_S → gx_Hp := Classical.choose hp_ex
theorem hp_def (G : gx_G) (σ : gs_S) : hp G σ = hp0 G σ := Classical.choose_spec hp_ex G σ
def gs_set (σ : gs_S) (c i : Nat) (w : gs_Ob) : gs_S := fun c' i' => if c' = c ∧ i' = i then w else σ c' i'
theorem gs_same (σ : gs_S) (c i : Nat) (w : gs_Ob) : gs_set σ c i w c i = w := by simp [gs_set]
theorem gs_ne {σ : gs_S} {c i c' i' : Nat} {w : gs_Ob} (h : ¬ (c' = c ∧ i' = i)) : gs_set σ c i w c' i' = σ c' i' := if_neg h
theorem gs_neI {σ : gs_S} {c i c' i' : Nat} {w : gs_Ob} (h : i' ≠ i) : gs_set σ c i w c' i' = σ c' i' := if_neg fun q => h q.2
theorem gs_neC {σ : gs_S} {c i c' i' : Nat} {w : gs_Ob} (h : c' ≠ c) : gs_set σ c i w c' i' = σ c' i' := if_neg fun q => h q.1
theorem gs_eta (σ : gs_S) (c i : Nat) : gs_set σ c i (σ c i) = σ := by
  funext c' i'
  unfold gs_set
  split
  · next h => rw [h.1, h.2]
  · rfl
theorem gs_twice (σ : gs_S) (c i : Nat) (w v : gs_Ob) : gs_set (gs_set σ c i w) c i v = gs_set σ c i v := by
  funext c' i'
  unfold gs_set
  split <;> rfl
theorem gs_comm {σ : gs_S} {c i c' i' : Nat} {w v : gs_Ob} (h : ¬ (c' = c ∧ i' = i)) : gs_set (gs_set σ c i w) c' i' v = gs_set (gs_set σ c' i' v) c i w := by
  funext a b
  unfold gs_set
  by_cases h1 : a = c' ∧ b = i'
  · by_cases h2 : a = c ∧ b = i
    · exact absurd ⟨h1.1.symm.trans h2.1, h1.2.symm.trans h2.2⟩ h
    · simp [h1, h2]; intro e1 e2; exact absurd ⟨e1, e2⟩ h
  · by_cases h2 : a = c ∧ b = i
    · simp [h1, h2]; intro e1 e2; exact absurd ⟨e1.symm, e2.symm⟩ h
    · simp [h1, h2]
theorem gs_posOk : ∀ x ∈ gs_lay, gs_lay[gs_pos x.1 x.2.1 x.2.2]? = some x := by decide +kernel
theorem gs_posIs : ∀ p, p < 125 → ∀ x ∈ gs_lay, gs_lay[p]? = some x → gs_pos x.1 x.2.1 x.2.2 = p := by decide +kernel
theorem gs_layLen : gs_lay.length = 125 := by decide +kernel
theorem gs_posLt : ∀ x ∈ gs_lay, gs_pos x.1 x.2.1 x.2.2 < 125 := by decide +kernel
theorem gs_inO : ∀ c, c < 8 → ∀ i, i < gs_cnt c → (c, i, 0) ∈ gs_lay := by decide +kernel
def gs_isA (c k : Nat) : Bool := gs_lay.any (fun x => x.1 == c && x.2.2 == k + 1)
theorem gs_inA0 : ∀ c, c < 8 → ∀ i, i < gs_cnt c → ∀ k, k < 30 → (!(gs_isA c k) || decide ((c, i, k + 1) ∈ gs_lay)) = true := by decide +kernel
theorem gs_inA (c : Nat) (hc : c < 8) (i : Nat) (hi : i < gs_cnt c) (k : Nat) (hk : k < 30) (h : gs_isA c k = true) : (c, i, k + 1) ∈ gs_lay := by
  have h1 := gs_inA0 c hc i hi k hk
  rw [h] at h1
  simpa using h1
theorem hp_at {G : gx_G} {σ : gs_S} {x : Nat × Nat × Nat} (h : x ∈ gs_lay) : (hp G σ).2 (gs_a G x.1 x.2.1 x.2.2) = some (gs_cell G σ x) := by
  rw [hp_def]
  show (if gs_a G x.1 x.2.1 x.2.2 < gx_N G then none else (gs_lay[gs_a G x.1 x.2.1 x.2.2 - gx_N G]?).map (gs_cell G σ)) = _
  rw [if_neg (by unfold gs_a; omega), show gs_a G x.1 x.2.1 x.2.2 - gx_N G = gs_pos x.1 x.2.1 x.2.2 by unfold gs_a; omega, gs_posOk x h]
  rfl
theorem hp_up {G : gx_G} {σ τ : gs_S} {x : Nat × Nat × Nat} {e : va_E} (h : x ∈ gs_lay) (he : gs_cell G τ x = e) (ho : ∀ y, y ≠ x → gs_cell G σ y = gs_cell G τ y) : gx_up (hp G σ) (gs_a G x.1 x.2.1 x.2.2) e = hp G τ := by
  have h0 := hp_at (G := G) (σ := τ) h
  rw [hp_def] at h0
  rw [hp_def, hp_def]
  refine Prod.ext rfl (funext fun a => ?_)
  show (if a = gs_a G x.1 x.2.1 x.2.2 then some e else (hp0 G σ).2 a) = (hp0 G τ).2 a
  by_cases ha : a = gs_a G x.1 x.2.1 x.2.2
  · rw [if_pos ha, ha, h0, he]
  · rw [if_neg ha]
    show (if a < gx_N G then none else (gs_lay[a - gx_N G]?).map (gs_cell G σ)) = (if a < gx_N G then none else (gs_lay[a - gx_N G]?).map (gs_cell G τ))
    by_cases hN : a < gx_N G
    · rw [if_pos hN, if_pos hN]
    · rw [if_neg hN, if_neg hN]
      cases hx : gs_lay[a - gx_N G]? with
      | none => rfl
      | some y =>
        have hlt : a - gx_N G < 125 := by rw [← gs_layLen]; exact (List.getElem?_eq_some_iff.mp hx).1
        have hy : y ∈ gs_lay := List.mem_of_getElem? hx
        have hp1 := gs_posIs _ hlt y hy hx
        have hne : y ≠ x := fun q => ha (by subst q; unfold gs_a; omega)
        show some _ = some _
        rw [ho y hne]
theorem gs_cell_off {G : gx_G} {σ : gs_S} {c i : Nat} {w : gs_Ob} {y : Nat × Nat × Nat} (h : ¬ (y.1 = c ∧ y.2.1 = i)) : gs_cell G (gs_set σ c i w) y = gs_cell G σ y := by
  obtain ⟨c', i', q⟩ := y
  have e : gs_set σ c i w c' i' = σ c' i' := gs_ne h
  cases q with
  | zero => show Sum.inr (c', gs_flds G c' i' (gs_set σ c i w c' i')) = _; rw [e]; rfl
  | succ k => show gs_arr G c' i' (gs_set σ c i w c' i') k = _; rw [e]; rfl
/-- an int's write -/
def gs_f (w : gs_Ob) (k : Nat) (v : Int32) : gs_Ob := (w.1, upd w.2.1 k v, w.2.2)
def gs_l (w : gs_Ob) (k : Nat) (v : Int64) : gs_Ob := (w.1, w.2.1, vp_updL w.2.2 k v)
def gs_w (w : gs_Ob) (k : Nat) (f : Nat → Int32) : gs_Ob := (va_up w.1 k f, w.2)
theorem gs_arr_ext {G : gx_G} {c i : Nat} {w v : gs_Ob} {k : Nat} (h : w.1 k = v.1 k) : gs_arr G c i w k = gs_arr G c i v k := by
  unfold gs_arr
  split <;> first | rfl | (rw [h])
theorem hp_upF {G : gx_G} {σ : gs_S} {c i : Nat} {w v : gs_Ob} {fs : List Value} (hc : c < 8) (hi : i < gs_cnt c) (h1 : w.1 = v.1) (hf : fs = gs_flds G c i v) : gx_up (hp G (gs_set σ c i w)) (gs_a G c i 0) (.inr (c, fs)) = hp G (gs_set σ c i v) := by
  refine hp_up (x := (c, i, 0)) (gs_inO c hc i hi) (by show Sum.inr (c, gs_flds G c i (gs_set σ c i v c i)) = _; rw [gs_same, hf]) fun y hy => ?_
  by_cases h : y.1 = c ∧ y.2.1 = i
  · obtain ⟨c', i', q⟩ := y
    obtain ⟨e1, e2⟩ := h
    dsimp only at e1 e2
    subst e1; subst e2
    cases q with
    | zero => exact absurd rfl hy
    | succ k => show gs_arr G c' i' (gs_set σ c' i' w c' i') k = gs_arr G c' i' (gs_set σ c' i' v c' i') k; rw [gs_same, gs_same]; exact gs_arr_ext (by rw [h1])
  · rw [gs_cell_off h, gs_cell_off h]
theorem hp_upA {G : gx_G} {σ : gs_S} {c i k : Nat} {w : gs_Ob} {f : Nat → Int32} {e : va_E} (hc : c < 8) (hi : i < gs_cnt c) (hk : k < 30) (hA : gs_isA c k = true) (he : gs_arr G c i (gs_w w k f) k = e) : gx_up (hp G (gs_set σ c i w)) (gs_a G c i (k + 1)) e = hp G (gs_set σ c i (gs_w w k f)) := by
  refine hp_up (x := (c, i, k + 1)) (gs_inA c hc i hi k hk hA) (by show gs_arr G c i (gs_set σ c i _ c i) k = _; rw [gs_same, he]) fun y hy => ?_
  by_cases h : y.1 = c ∧ y.2.1 = i
  · obtain ⟨c', i', q⟩ := y
    obtain ⟨e1, e2⟩ := h
    dsimp only at e1 e2
    subst e1; subst e2
    cases q with
    | zero => show Sum.inr (c', gs_flds G c' i' (gs_set σ c' i' w c' i')) = Sum.inr (c', gs_flds G c' i' (gs_set σ c' i' _ c' i')); rw [gs_same, gs_same]; rfl
    | succ j =>
      show gs_arr G c' i' (gs_set σ c' i' w c' i') j = gs_arr G c' i' (gs_set σ c' i' _ c' i') j
      rw [gs_same, gs_same]
      have hj : j ≠ k := fun q => hy (by rw [q])
      exact gs_arr_ext (by simp [gs_w, va_up, hj])
  · rw [gs_cell_off h, gs_cell_off h]
section GST
variable {G : gx_G} {M : gx_M} {d kc ks : Nat} {Q : Option Value → gx_Hp → Prop} {pc n : Nat} {lv : List (Nat × Value)} {rest : List Value} {σ : gs_S} {c i : Nat} {w : gs_Ob}
/-- fields: of an object that is written, of another one -/
theorem T_get {C : String} {T : u_T} {N : Nat} {ty : Nat → FieldType} (hcl : gx_clOk c C T N ty) {index k : Nat} {v : Value} (hd : decode M.2.1 pc = .ok (.getfield index, 3)) (hw : Cond.fieldLink M.1 index (T k).1 (T k).2.1 (T k).2.2.1 ∈ gx_ws) (hk : k < N ∧ c < 8) (hi : i < gs_cnt c) (hf : (gs_flds G c i w)[k]? = some v) (hn : pc + 3 = n) (kk : gx_J G M d kc ks Q n lv (v :: rest) (hp G (gs_set σ c i w))) : gx_J G M d kc ks Q pc lv (.ref (gs_a G c i 0) :: rest) (hp G (gs_set σ c i w)) :=
  J_get hcl hd hw hk.1 ((hp_at (x := (c, i, 0)) (gs_inO c hk.2 i hi)).trans (by show some (Sum.inr (c, gs_flds G c i (gs_set σ c i w c i))) = _; rw [gs_same])) hf hn kk
theorem T_getO {C : String} {T : u_T} {N : Nat} {ty : Nat → FieldType} (hcl : gx_clOk c C T N ty) {index k : Nat} {v : Value} (hd : decode M.2.1 pc = .ok (.getfield index, 3)) (hw : Cond.fieldLink M.1 index (T k).1 (T k).2.1 (T k).2.2.1 ∈ gx_ws) (hk : k < N ∧ c < 8) (hi : i < gs_cnt c) (hf : (gs_flds G c i (σ c i))[k]? = some v) (hn : pc + 3 = n) (kk : gx_J G M d kc ks Q n lv (v :: rest) (hp G σ)) : gx_J G M d kc ks Q pc lv (.ref (gs_a G c i 0) :: rest) (hp G σ) :=
  J_get hcl hd hw hk.1 (hp_at (x := (c, i, 0)) (gs_inO c hk.2 i hi)) hf hn kk
theorem T_putI {C : String} {T : u_T} {N : Nat} {ty : Nat → FieldType} (hcl : gx_clOk c C T N ty) {index k : Nat} {x : Int32} (hd : decode M.2.1 pc = .ok (.putfield index, 3)) (hw : Cond.fieldLink M.1 index (T k).1 (T k).2.1 (T k).2.2.1 ∈ gx_ws) (hk : k < N ∧ c < 8 ∧ (T k).2.2.2 = false) (hi : i < gs_cnt c) (hnar : narrow (ty k) (.int x) = .int x) (hfit : fits (ty k) (.int x) = true) (hlen : k < (gs_flds G c i w).length) (hf : (gs_flds G c i w).set k (.int x) = gs_flds G c i (gs_f w k x)) (hn : pc + 3 = n) (kk : gx_J G M d kc ks Q n lv rest (hp G (gs_set σ c i (gs_f w k x)))) : gx_J G M d kc ks Q pc lv (.int x :: .ref (gs_a G c i 0) :: rest) (hp G (gs_set σ c i w)) := by
  refine J_put hcl hd hw hk.1 ((hp_at (x := (c, i, 0)) (gs_inO c hk.2.1 i hi)).trans (by show some (Sum.inr (c, gs_flds G c i (gs_set σ c i w c i))) = _; rw [gs_same])) (Or.inl hk.2.2) hnar hfit hlen hn ?_
  rw [hp_upF (w := w) (v := gs_f w k x) hk.2.1 hi rfl hf]
  exact kk
theorem T_putL {C : String} {T : u_T} {N : Nat} {ty : Nat → FieldType} (hcl : gx_clOk c C T N ty) {index k : Nat} {x : Int64} (hd : decode M.2.1 pc = .ok (.putfield index, 3)) (hw : Cond.fieldLink M.1 index (T k).1 (T k).2.1 (T k).2.2.1 ∈ gx_ws) (hk : k < N ∧ c < 8 ∧ (T k).2.2.2 = false) (hi : i < gs_cnt c) (hnar : narrow (ty k) (.long x) = .long x) (hfit : fits (ty k) (.long x) = true) (hlen : k < (gs_flds G c i w).length) (hf : (gs_flds G c i w).set k (.long x) = gs_flds G c i (gs_l w k x)) (hn : pc + 3 = n) (kk : gx_J G M d kc ks Q n lv rest (hp G (gs_set σ c i (gs_l w k x)))) : gx_J G M d kc ks Q pc lv (.long x :: .ref (gs_a G c i 0) :: rest) (hp G (gs_set σ c i w)) := by
  refine J_put hcl hd hw hk.1 ((hp_at (x := (c, i, 0)) (gs_inO c hk.2.1 i hi)).trans (by show some (Sum.inr (c, gs_flds G c i (gs_set σ c i w c i))) = _; rw [gs_same])) (Or.inl hk.2.2) hnar hfit hlen hn ?_
  rw [hp_upF (w := w) (v := gs_l w k x) hk.2.1 hi rfl hf]
  exact kk
theorem T_iald {k N : Nat} {j : Int32} (hd : decode M.2.1 pc = .ok (.iaload, 1)) (hk : k < 30 ∧ c < 8 ∧ gs_isA c k = true) (hi : i < gs_cnt c) (ha : gs_arr G c i w k = .inl (G.2.1 0, N, .inl (w.1 k))) (hin : vp_in j N) (hn : pc + 1 = n) (kk : gx_J G M d kc ks Q n lv (.int (w.1 k j.toNatClampNeg) :: rest) (hp G (gs_set σ c i w))) : gx_J G M d kc ks Q pc lv (.int j :: .ref (gs_a G c i (k + 1)) :: rest) (hp G (gs_set σ c i w)) :=
  J_iald hd ((hp_at (x := (c, i, k + 1)) (gs_inA c hk.2.1 i hi k hk.1 hk.2.2)).trans (by show some (gs_arr G c i (gs_set σ c i w c i) k) = _; rw [gs_same, ha])) hin hn kk
theorem T_ialdO {k N : Nat} {j : Int32} (hd : decode M.2.1 pc = .ok (.iaload, 1)) (hk : k < 30 ∧ c < 8 ∧ gs_isA c k = true) (hi : i < gs_cnt c) (ha : gs_arr G c i (σ c i) k = .inl (G.2.1 0, N, .inl ((σ c i).1 k))) (hin : vp_in j N) (hn : pc + 1 = n) (kk : gx_J G M d kc ks Q n lv (.int ((σ c i).1 k j.toNatClampNeg) :: rest) (hp G σ)) : gx_J G M d kc ks Q pc lv (.int j :: .ref (gs_a G c i (k + 1)) :: rest) (hp G σ) :=
  J_iald hd ((hp_at (x := (c, i, k + 1)) (gs_inA c hk.2.1 i hi k hk.1 hk.2.2)).trans (by show some (gs_arr G c i (σ c i) k) = _; rw [ha])) hin hn kk
theorem T_iast {k N : Nat} {j x : Int32} (hd : decode M.2.1 pc = .ok (.iastore, 1)) (hk : k < 30 ∧ c < 8 ∧ gs_isA c k = true) (hi : i < gs_cnt c) (ha : ∀ v : gs_Ob, gs_arr G c i v k = .inl (G.2.1 0, N, .inl (v.1 k))) (hin : vp_in j N) (hn : pc + 1 = n) (kk : gx_J G M d kc ks Q n lv rest (hp G (gs_set σ c i (gs_w w k (upd (w.1 k) j.toNatClampNeg x))))) : gx_J G M d kc ks Q pc lv (.int x :: .int j :: .ref (gs_a G c i (k + 1)) :: rest) (hp G (gs_set σ c i w)) := by
  refine J_iast hd ((hp_at (x := (c, i, k + 1)) (gs_inA c hk.2.1 i hi k hk.1 hk.2.2)).trans (by show some (gs_arr G c i (gs_set σ c i w c i) k) = _; rw [gs_same, ha])) hin hn ?_
  rw [hp_upA (f := upd (w.1 k) j.toNatClampNeg x) hk.2.1 hi hk.1 hk.2.2 (by rw [ha]; simp [gs_w, va_up])]
  exact kk
theorem T_bald {j : Int32} (hd : decode M.2.1 pc = .ok (.baload, 1)) (hi : i < 1) (hin : vp_in j 160) (hn : pc + 1 = n) (kk : gx_J G M d kc ks Q n lv (.int ((σ 3 i).1 0 j.toNatClampNeg) :: rest) (hp G σ)) : gx_J G M d kc ks Q pc lv (.int j :: .ref (gs_a G 3 i 1) :: rest) (hp G σ) :=
  J_bald hd (hp_at (x := (3, i, 1)) (gs_inA 3 (by decide) i hi 0 (by decide) (by decide))) hin hn kk
theorem T_bast {j x : Int32} (hd : decode M.2.1 pc = .ok (.bastore, 1)) (hi : i < 1) (hin : vp_in j 160) (hn : pc + 1 = n) (kk : gx_J G M d kc ks Q n lv rest (hp G (gs_set σ 3 i (gs_w w 0 (upd (w.1 0) j.toNatClampNeg x.toInt8.toInt32))))) : gx_J G M d kc ks Q pc lv (.int x :: .int j :: .ref (gs_a G 3 i 1) :: rest) (hp G (gs_set σ 3 i w)) := by
  refine J_bast hd ((hp_at (x := (3, i, 1)) (gs_inA 3 (by decide) i hi 0 (by decide) (by decide))).trans (by show some (gs_arr G 3 i (gs_set σ 3 i w 3 i) 0) = _; rw [gs_same]; rfl)) hin hn ?_
  rw [hp_upA (c := 3) (k := 0) (f := upd (w.1 0) j.toNatClampNeg x.toInt8.toInt32) (by decide) hi (by decide) (by decide) (by show Sum.inl (G.2.1 1, 160, Sum.inl ((gs_w w 0 _).1 0)) = _; simp [gs_w, va_up])]
  exact kk
theorem T_zald {j : Int32} (hd : decode M.2.1 pc = .ok (.baload, 1)) (hi : i < 1) (hin : vp_in j 2) (hn : pc + 1 = n) (kk : gx_J G M d kc ks Q n lv (.int ((σ 7 i).1 2 j.toNatClampNeg) :: rest) (hp G σ)) : gx_J G M d kc ks Q pc lv (.int j :: .ref (gs_a G 7 i 3) :: rest) (hp G σ) :=
  J_zald hd (hp_at (x := (7, i, 3)) (gs_inA 7 (by decide) i hi 2 (by decide) (by decide))) hin hn kk
theorem T_zast {j x : Int32} (hd : decode M.2.1 pc = .ok (.bastore, 1)) (hi : i < 1) (hin : vp_in j 2) (hx : narrow .boolean (.int x) = .int x) (hn : pc + 1 = n) (kk : gx_J G M d kc ks Q n lv rest (hp G (gs_set σ 7 i (gs_w w 2 (upd (w.1 2) j.toNatClampNeg x))))) : gx_J G M d kc ks Q pc lv (.int x :: .int j :: .ref (gs_a G 7 i 3) :: rest) (hp G (gs_set σ 7 i w)) := by
  refine J_zast hd ((hp_at (x := (7, i, 3)) (gs_inA 7 (by decide) i hi 2 (by decide) (by decide))).trans (by show some (gs_arr G 7 i (gs_set σ 7 i w 7 i) 2) = _; rw [gs_same]; rfl)) hin hx hn ?_
  rw [hp_upA (c := 7) (k := 2) (f := upd (w.1 2) j.toNatClampNeg x) (by decide) hi (by decide) (by decide) (by show Sum.inl (G.2.1 2, 2, Sum.inl ((gs_w w 2 _).1 2)) = _; simp [gs_w, va_up])]
  exact kk
theorem T_alen {k t : Nat} {x : vp_A} {v : Int32} {ty : FieldType} {cA : ClassId} (hd : decode M.2.1 pc = .ok (.arraylength, 1)) (hk : k < 30 ∧ c < 8 ∧ gs_isA c k = true) (hi : i < gs_cnt c) (ha : gs_arr G c i (σ c i) k = .inl (cA, x)) (ht : (gx_tys G)[t]? = some (cA, ty)) (hv : Int32.ofNat x.1 = v) (hn : pc + 1 = n) (kk : gx_J G M d kc ks Q n lv (.int v :: rest) (hp G σ)) : gx_J G M d kc ks Q pc lv (.ref (gs_a G c i (k + 1)) :: rest) (hp G σ) :=
  J_alen hd ((hp_at (x := (c, i, k + 1)) (gs_inA c hk.2.1 i hi k hk.1 hk.2.2)).trans (by show some (gs_arr G c i (σ c i) k) = _; rw [ha])) ht hv hn kk
theorem T_aald {k N t b : Nat} {C : String} {f : Nat → Option Nat} {j : Int32} {cA : ClassId} (hd : decode M.2.1 pc = .ok (.aaload, 1)) (hk : k < 30 ∧ gs_isA 6 k = true) (ha : gs_arr G 6 0 (σ 6 0) k = .inl (cA, N, .inr (.inr (.inr (.inr f))))) (ht : (gx_tys G)[t]? = some (cA, .object C)) (hin : vp_in j N) (hb : f j.toNatClampNeg = some b) (hn : pc + 1 = n) (kk : gx_J G M d kc ks Q n lv (.ref b :: rest) (hp G σ)) : gx_J G M d kc ks Q pc lv (.int j :: .ref (gs_a G 6 0 (k + 1)) :: rest) (hp G σ) :=
  J_aald hd ((hp_at (x := (6, 0, k + 1)) (gs_inA 6 (by decide) 0 (by decide) k hk.1 hk.2)).trans (by show some (gs_arr G 6 0 (σ 6 0) k) = _; rw [ha])) ht hin hb hn kk
/-- the receiver of a call -/
theorem T_recv (hc : c < 8) (hi : i < gs_cnt c) : (hp G σ).2 (gs_a G c i 0) = some (.inr (c, gs_flds G c i (σ c i))) := hp_at (x := (c, i, 0)) (gs_inO c hc i hi)
end GST
