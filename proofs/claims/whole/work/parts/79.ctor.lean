def ao (G : gx_G) (t N : Nat) (f : Nat → Option Nat) : va_E := .inl (G.2.1 t, N, .inr (.inr (.inr (.inr f))))
theorem J_anewL {G : gx_G} {M : gx_M} {d kc ks : Nat} {Q : Option Value → gx_Hp → Prop} {pc n : Nat} {lv : List (Nat × Value)} {rest : List Value} {a l l' : List va_E} {N j t index : Nat} {C : String} (hd : decode M.2.1 pc = .ok (.anewarray index, 3)) (hw : Cond.classLink M.1 index C ∈ gx_ws) (hw1 : C ∈ gx_over) (ht : (gx_tys G)[t]? = some (G.2.1 t, .object C)) (hj : l.length = j) (hN : N < 1000) (hl : l ++ [ao G t N (fun _ => none)] = l') (hn : pc + 3 = n) (k : gx_J G M d kc ks Q n lv (.ref (gx_N G + (a.length + j)) :: rest) (hL G (a ++ l'))) : gx_J G M d (kc + 1) (ks + N) Q pc lv (.int (nI N) :: rest) (hL G (a ++ l)) := by
  refine J_anew (t := t) (cA := G.2.1 t) (N := N) hd hw hw1 ht (nI_pos (by omega)) (nI_clamp (by omega)) (by omega) hn ?_
  rw [hL_push, List.append_assoc, show (.inl (G.2.1 t, N, .inr (.inr (.inr (.inr (fun _ => none))))) : va_E) = ao G t N (fun _ => none) from rfl, hl]
  have e : (hL G (a ++ l)).1 = gx_N G + (a.length + j) := by show gx_N G + (a ++ l).length = _; rw [List.length_append, hj]
  rw [e]; exact k
theorem J_alenL {G : gx_G} {M : gx_M} {d kc ks : Nat} {Q : Option Value → gx_Hp → Prop} {pc n : Nat} {lv : List (Nat × Value)} {rest : List Value} {a l : List va_E} {N j t : Nat} {f : Nat → Option Nat} {C : String} (hd : decode M.2.1 pc = .ok (.arraylength, 1)) (ha : l[j]? = some (ao G t N f)) (ht : (gx_tys G)[t]? = some (G.2.1 t, .object C)) (hn : pc + 1 = n) (k : gx_J G M d kc ks Q n lv (.int (nI N) :: rest) (hL G (a ++ l))) : gx_J G M d kc ks Q pc lv (.ref (gx_N G + (a.length + j)) :: rest) (hL G (a ++ l)) := J_alen (x := (N, .inr (.inr (.inr (.inr f))))) hd ((hL_at G _ _).trans ((get_app a l j).trans ha)) ht rfl hn k
theorem J_aastL {G : gx_G} {M : gx_M} {d kc ks : Nat} {Q : Option Value → gx_Hp → Prop} {pc n : Nat} {lv : List (Nat × Value)} {rest : List Value} {a l l' : List va_E} {N t ja jb ci i : Nat} {r : vw_C} {f : Nat → Option Nat} {vs : List Value} (hd : decode M.2.1 pc = .ok (.aastore, 1)) (ha : l[ja]? = some (ao G t N f)) (ht : (gx_tys G)[t]? = some (G.2.1 t, .object r.1)) (hb : l[jb]? = some (.inr (ci, vs))) (hc : gx_cl[ci]? = some r) (hi : i < N) (hN : N < 1000) (hl : l.set ja (ao G t N (va_up f i (some (gx_N G + (a.length + jb))))) = l') (hn : pc + 1 = n) (k : gx_J G M d kc ks Q n lv rest (hL G (a ++ l'))) : gx_J G M d kc ks Q pc lv (.ref (gx_N G + (a.length + jb)) :: .int (nI i) :: .ref (gx_N G + (a.length + ja)) :: rest) (hL G (a ++ l)) := by
  refine J_aast (cA := G.2.1 t) hd ((hL_at G _ _).trans ((get_app a l ja).trans ha)) ht ((hL_at G _ _).trans ((get_app a l jb).trans hb)) hc (vp_in_nI hi (by omega)) hn ?_
  rw [nI_clamp (by omega)]
  have hjl : ja < l.length := (List.getElem?_eq_some_iff.mp ha).1
  rw [hL_up G _ _ _ (by rw [List.length_append]; omega), set_app]
  have e : (.inl (G.2.1 t, N, .inr (.inr (.inr (.inr (va_up f i (some (gx_N G + (a.length + jb)))))))) : va_E) = ao G t N (va_up f i (some (gx_N G + (a.length + jb)))) := rfl
  rw [e, hl]
  exact k
theorem J_putZ {G : gx_G} {M : gx_M} {d kc ks : Nat} {Q : Option Value → gx_Hp → Prop} {pc n : Nat} {lv : List (Nat × Value)} {rest : List Value} {l l' : List va_E} {ci : Nat} {C : String} {T : u_T} {N : Nat} {ty : Nat → FieldType} (hcl : gx_clOk ci C T N ty) {index kk j : Nat} {fs : List Value} {v : Value} (hd : decode M.2.1 pc = .ok (.putfield index, 3)) (hw : Cond.fieldLink M.1 index (T kk).1 (T kk).2.1 (T kk).2.2.1 ∈ gx_ws) (hk : kk < N) (ha : l[j]? = some (.inr (ci, fs))) (hfin : (T kk).2.2.2 = false ∨ ((T kk).2.2.2 = true ∧ M.2.2.2.2 = true ∧ (T kk).1 = M.1)) (hnar : narrow (ty kk) v = v) (hfit : fits (ty kk) v = true) (hlen : kk < fs.length) (hl : l.set j (.inr (ci, fs.set kk v)) = l') (hn : pc + 3 = n) (k : gx_J G M d kc ks Q n lv rest (hL G l')) : gx_J G M d kc ks Q pc lv (v :: .ref (gx_N G + j) :: rest) (hL G l) := by
  obtain ⟨a, ha0⟩ : ∃ a : List va_E, a = [] := ⟨_, rfl⟩
  have ej : a.length + j = j := by rw [ha0]; exact Nat.zero_add _
  have h := J_putL (a := a) (j := j) (lv := lv) (rest := rest) (d := d) (kc := kc) (ks := ks) (Q := Q) hcl hd hw hk ha hfin hnar hfit hlen hl hn (by rw [ha0]; exact k)
  rw [ej, ha0] at h; exact h
theorem J_getZ {G : gx_G} {M : gx_M} {d kc ks : Nat} {Q : Option Value → gx_Hp → Prop} {pc n : Nat} {lv : List (Nat × Value)} {rest : List Value} {l : List va_E} {ci : Nat} {C : String} {T : u_T} {N : Nat} {ty : Nat → FieldType} (hcl : gx_clOk ci C T N ty) {index kk j : Nat} {fs : List Value} {v : Value} (hd : decode M.2.1 pc = .ok (.getfield index, 3)) (hw : Cond.fieldLink M.1 index (T kk).1 (T kk).2.1 (T kk).2.2.1 ∈ gx_ws) (hk : kk < N) (ha : l[j]? = some (.inr (ci, fs))) (hv : fs[kk]? = some v) (hn : pc + 3 = n) (k : gx_J G M d kc ks Q n lv (v :: rest) (hL G l)) : gx_J G M d kc ks Q pc lv (.ref (gx_N G + j) :: rest) (hL G l) := by
  obtain ⟨a, ha0⟩ : ∃ a : List va_E, a = [] := ⟨_, rfl⟩
  have ej : a.length + j = j := by rw [ha0]; exact Nat.zero_add _
  have h := J_getL (a := a) (j := j) (lv := lv) (rest := rest) (d := d) (kc := kc) (ks := ks) (Q := Q) hcl hd hw hk ha hv hn (by rw [ha0]; exact k)
  rw [ej, ha0] at h; exact h
theorem J_newZ {G : gx_G} {M : gx_M} {d kc ks : Nat} {Q : Option Value → gx_Hp → Prop} {pc n : Nat} {lv : List (Nat × Value)} {rest : List Value} {l l' : List va_E} {ci : Nat} {C : String} {T : u_T} {N : Nat} {ty : Nat → FieldType} (hcl : gx_clOk ci C T N ty) {index j : Nat} {fs : List Value} (hd : decode M.2.1 pc = .ok (.new index, 3)) (hw : Cond.classLink M.1 index C ∈ gx_ws) (hw1 : Cond.instantiable C N ∈ gx_ws) (hw2 : Cond.initialized C ∈ gx_ws) (hfs : ∀ j, j < N → defaultValue (ty j) = vp_V fs j) (hj : l.length = j) (hl : l ++ [.inr (ci, fs)] = l') (hn : pc + 3 = n) (k : gx_J G M d kc ks Q n lv (.ref (gx_N G + j) :: rest) (hL G l')) : gx_J G M d (kc + 1) (ks + N) Q pc lv rest (hL G l) := by
  obtain ⟨a, ha0⟩ : ∃ a : List va_E, a = [] := ⟨_, rfl⟩
  have ej : a.length + j = j := by rw [ha0]; exact Nat.zero_add _
  have h := J_newL (a := a) (j := j) (lv := lv) (rest := rest) (d := d) (kc := kc) (ks := ks) (Q := Q) hcl hd hw hw1 hw2 hfs hj hl hn (by rw [ej, ha0]; exact k)
  rw [ha0] at h; exact h
theorem J_anewZ {G : gx_G} {M : gx_M} {d kc ks : Nat} {Q : Option Value → gx_Hp → Prop} {pc n : Nat} {lv : List (Nat × Value)} {rest : List Value} {l l' : List va_E} {N j t index : Nat} {C : String} (hd : decode M.2.1 pc = .ok (.anewarray index, 3)) (hw : Cond.classLink M.1 index C ∈ gx_ws) (hw1 : C ∈ gx_over) (ht : (gx_tys G)[t]? = some (G.2.1 t, .object C)) (hj : l.length = j) (hN : N < 1000) (hl : l ++ [ao G t N (fun _ => none)] = l') (hn : pc + 3 = n) (k : gx_J G M d kc ks Q n lv (.ref (gx_N G + j) :: rest) (hL G l')) : gx_J G M d (kc + 1) (ks + N) Q pc lv (.int (nI N) :: rest) (hL G l) := by
  obtain ⟨a, ha0⟩ : ∃ a : List va_E, a = [] := ⟨_, rfl⟩
  have ej : a.length + j = j := by rw [ha0]; exact Nat.zero_add _
  have h := J_anewL (a := a) (j := j) (lv := lv) (rest := rest) (d := d) (kc := kc) (ks := ks) (Q := Q) hd hw hw1 ht hj hN hl hn (by rw [ej, ha0]; exact k)
  rw [ha0] at h; exact h
theorem J_alenZ {G : gx_G} {M : gx_M} {d kc ks : Nat} {Q : Option Value → gx_Hp → Prop} {pc n : Nat} {lv : List (Nat × Value)} {rest : List Value} {l : List va_E} {N j t : Nat} {f : Nat → Option Nat} {C : String} (hd : decode M.2.1 pc = .ok (.arraylength, 1)) (ha : l[j]? = some (ao G t N f)) (ht : (gx_tys G)[t]? = some (G.2.1 t, .object C)) (hn : pc + 1 = n) (k : gx_J G M d kc ks Q n lv (.int (nI N) :: rest) (hL G l)) : gx_J G M d kc ks Q pc lv (.ref (gx_N G + j) :: rest) (hL G l) := by
  obtain ⟨a, ha0⟩ : ∃ a : List va_E, a = [] := ⟨_, rfl⟩
  have ej : a.length + j = j := by rw [ha0]; exact Nat.zero_add _
  have h := J_alenL (a := a) (j := j) (lv := lv) (rest := rest) (d := d) (kc := kc) (ks := ks) (Q := Q) hd ha ht hn (by rw [ha0]; exact k)
  rw [ej, ha0] at h; exact h
theorem J_aastZ {G : gx_G} {M : gx_M} {d kc ks : Nat} {Q : Option Value → gx_Hp → Prop} {pc n : Nat} {lv : List (Nat × Value)} {rest : List Value} {l l' : List va_E} {N t ja jb ci i : Nat} {r : vw_C} {f : Nat → Option Nat} {vs : List Value} (hd : decode M.2.1 pc = .ok (.aastore, 1)) (ha : l[ja]? = some (ao G t N f)) (ht : (gx_tys G)[t]? = some (G.2.1 t, .object r.1)) (hb : l[jb]? = some (.inr (ci, vs))) (hc : gx_cl[ci]? = some r) (hi : i < N) (hN : N < 1000) (hl : l.set ja (ao G t N (va_up f i (some (gx_N G + jb)))) = l') (hn : pc + 1 = n) (k : gx_J G M d kc ks Q n lv rest (hL G l')) : gx_J G M d kc ks Q pc lv (.ref (gx_N G + jb) :: .int (nI i) :: .ref (gx_N G + ja) :: rest) (hL G l) := by
  obtain ⟨a, ha0⟩ : ∃ a : List va_E, a = [] := ⟨_, rfl⟩
  have ej : ∀ j, a.length + j = j := fun j => by rw [ha0]; exact Nat.zero_add _
  have h := J_aastL (a := a) (l' := l') (ja := ja) (jb := jb) (i := i) (lv := lv) (rest := rest) (d := d) (kc := kc) (ks := ks) (Q := Q) hd ha ht hb hc hi hN (by rw [ej]; exact hl) hn (by rw [ha0]; exact k)
  rw [ej, ej, ha0] at h; exact h
theorem mz_X5 {G : gx_G} {M : gx_M} (d : Nat) {kc ks : Nat} {Q : Option Value → gx_Hp → Prop} {pc n : Nat} {lv : List (Nat × Value)} {rest : List Value} {l : List va_E} {i1 i2 j : Nat} (hd1 : decode M.2.1 pc = .ok (.new i1, 3)) (hd2 : decode M.2.1 (pc + 3) = .ok (.dup, 1)) (hd3 : decode M.2.1 (pc + 4) = .ok (.invokespecial i2, 3)) (hw : Cond.classLink M.1 i1 RX5 ∈ gx_ws) (hnn : (M.1, i2, yX5_init) ∈ gx_nest) (hj : l.length = j) (hst : ((Value.ref 0 :: rest).map fun v => v.category).sum ≤ 8) (hn : pc + 7 = n) (k : gx_J G M (d + 1 + 1) kc ks Q n lv (.ref (gx_N G + j) :: rest) (hL G (l ++ W5 G j))) : gx_J G M (d + 1 + 1) (kc + 6) (ks + 41) Q pc lv rest (hL G l) := by
  obtain ⟨a, ha0⟩ : ∃ a : List va_E, a = [] := ⟨_, rfl⟩
  have ej : a.length + j = j := by rw [ha0]; exact Nat.zero_add _
  have h := mk_X5 d (a := a) (j := j) (lv := lv) (rest := rest) (kc := kc) (ks := ks) (Q := Q) hd1 hd2 hd3 hw hnn hj hst hn (by rw [ej, ha0]; exact k)
  rw [ha0] at h; exact h
theorem mz_X2 {G : gx_G} {M : gx_M} (d : Nat) {kc ks : Nat} {Q : Option Value → gx_Hp → Prop} {pc n : Nat} {lv : List (Nat × Value)} {rest : List Value} {l : List va_E} {i1 i2 j : Nat} (hd1 : decode M.2.1 pc = .ok (.new i1, 3)) (hd2 : decode M.2.1 (pc + 3) = .ok (.dup, 1)) (hd3 : decode M.2.1 (pc + 4) = .ok (.invokespecial i2, 3)) (hw : Cond.classLink M.1 i1 RX2 ∈ gx_ws) (hnn : (M.1, i2, yX2_init) ∈ gx_nest) (hj : l.length = j) (hst : ((Value.ref 0 :: rest).map fun v => v.category).sum ≤ 8) (hn : pc + 7 = n) (k : gx_J G M (d + 1 + 1) kc ks Q n lv (.ref (gx_N G + j) :: rest) (hL G (l ++ S2 G j))) : gx_J G M (d + 1 + 1) (kc + 4) (ks + 22) Q pc lv rest (hL G l) := by
  obtain ⟨a, ha0⟩ : ∃ a : List va_E, a = [] := ⟨_, rfl⟩
  have ej : a.length + j = j := by rw [ha0]; exact Nat.zero_add _
  have h := mk_X2 d (a := a) (j := j) (lv := lv) (rest := rest) (kc := kc) (ks := ks) (Q := Q) hd1 hd2 hd3 hw hnn hj hst hn (by rw [ej, ha0]; exact k)
  rw [ha0] at h; exact h
theorem mz_X1 {G : gx_G} {M : gx_M} (d : Nat) {kc ks : Nat} {Q : Option Value → gx_Hp → Prop} {pc n : Nat} {lv : List (Nat × Value)} {rest : List Value} {l : List va_E} {i1 i2 j : Nat} (hd1 : decode M.2.1 pc = .ok (.new i1, 3)) (hd2 : decode M.2.1 (pc + 3) = .ok (.dup, 1)) (hd3 : decode M.2.1 (pc + 4) = .ok (.invokespecial i2, 3)) (hw : Cond.classLink M.1 i1 RX1 ∈ gx_ws) (hnn : (M.1, i2, yX1_init) ∈ gx_nest) (hj : l.length = j) (hst : ((Value.ref 0 :: rest).map fun v => v.category).sum ≤ 8) (hn : pc + 7 = n) (k : gx_J G M (d + 1 + 1) kc ks Q n lv (.ref (gx_N G + j) :: rest) (hL G (l ++ H1 G j))) : gx_J G M (d + 1 + 1) (kc + 2) (ks + 43) Q pc lv rest (hL G l) := by
  obtain ⟨a, ha0⟩ : ∃ a : List va_E, a = [] := ⟨_, rfl⟩
  have ej : a.length + j = j := by rw [ha0]; exact Nat.zero_add _
  have h := mk_X1 d (a := a) (j := j) (lv := lv) (rest := rest) (kc := kc) (ks := ks) (Q := Q) hd1 hd2 hd3 hw hnn hj hst hn (by rw [ej, ha0]; exact k)
  rw [ha0] at h; exact h
theorem mz_X3 {G : gx_G} {M : gx_M} (d : Nat) {kc ks : Nat} {Q : Option Value → gx_Hp → Prop} {pc n : Nat} {lv : List (Nat × Value)} {rest : List Value} {l : List va_E} {i1 i2 j : Nat} (hd1 : decode M.2.1 pc = .ok (.new i1, 3)) (hd2 : decode M.2.1 (pc + 3) = .ok (.dup, 1)) (hd3 : decode M.2.1 (pc + 4) = .ok (.invokespecial i2, 3)) (hw : Cond.classLink M.1 i1 RX3 ∈ gx_ws) (hnn : (M.1, i2, yX3_init) ∈ gx_nest) (hj : l.length = j) (hst : ((Value.ref 0 :: rest).map fun v => v.category).sum ≤ 8) (hn : pc + 7 = n) (k : gx_J G M (d + 1 + 1) kc ks Q n lv (.ref (gx_N G + j) :: rest) (hL G (l ++ T3 G j))) : gx_J G M (d + 1 + 1) (kc + 2) (ks + 162) Q pc lv rest (hL G l) := by
  obtain ⟨a, ha0⟩ : ∃ a : List va_E, a = [] := ⟨_, rfl⟩
  have ej : a.length + j = j := by rw [ha0]; exact Nat.zero_add _
  have h := mk_X3 d (a := a) (j := j) (lv := lv) (rest := rest) (kc := kc) (ks := ks) (Q := Q) hd1 hd2 hd3 hw hnn hj hst hn (by rw [ej, ha0]; exact k)
  rw [ha0] at h; exact h
theorem mz_X0 {G : gx_G} {M : gx_M} (d : Nat) {kc ks : Nat} {Q : Option Value → gx_Hp → Prop} {pc n : Nat} {lv : List (Nat × Value)} {rest : List Value} {l : List va_E} {i1 i2 j : Nat} (hd1 : decode M.2.1 pc = .ok (.new i1, 3)) (hd2 : decode M.2.1 (pc + 3) = .ok (.dup, 1)) (hd3 : decode M.2.1 (pc + 4) = .ok (.invokespecial i2, 3)) (hw : Cond.classLink M.1 i1 RX0 ∈ gx_ws) (hnn : (M.1, i2, yX0_init) ∈ gx_nest) (hj : l.length = j) (hst : ((Value.ref 0 :: rest).map fun v => v.category).sum ≤ 8) (hn : pc + 7 = n) (k : gx_J G M (d + 1 + 1 + 1) kc ks Q n lv (.ref (gx_N G + j) :: rest) (hL G (l ++ I0 G j))) : gx_J G M (d + 1 + 1 + 1) (kc + 11) (ks + 66) Q pc lv rest (hL G l) := by
  obtain ⟨a, ha0⟩ : ∃ a : List va_E, a = [] := ⟨_, rfl⟩
  have ej : a.length + j = j := by rw [ha0]; exact Nat.zero_add _
  have h := mk_X0 d (a := a) (j := j) (lv := lv) (rest := rest) (kc := kc) (ks := ks) (Q := Q) hd1 hd2 hd3 hw hnn hj hst hn (by rw [ej, ha0]; exact k)
  rw [ha0] at h; exact h
theorem mz_X4 {G : gx_G} {M : gx_M} (d : Nat) {kc ks : Nat} {Q : Option Value → gx_Hp → Prop} {pc n : Nat} {lv : List (Nat × Value)} {rest : List Value} {l : List va_E} {i1 i2 j : Nat} (hd1 : decode M.2.1 pc = .ok (.new i1, 3)) (hd2 : decode M.2.1 (pc + 3) = .ok (.dup, 1)) (hd3 : decode M.2.1 (pc + 4) = .ok (.invokespecial i2, 3)) (hw : Cond.classLink M.1 i1 RX4 ∈ gx_ws) (hnn : (M.1, i2, yX4_init) ∈ gx_nest) (hj : l.length = j) (hst : ((Value.ref 0 :: rest).map fun v => v.category).sum ≤ 8) (hn : pc + 7 = n) (k : gx_J G M (d + 1 + 1 + 1) kc ks Q n lv (.ref (gx_N G + j) :: rest) (hL G (l ++ R4 G j))) : gx_J G M (d + 1 + 1 + 1) (kc + 9) (ks + 213) Q pc lv rest (hL G l) := by
  obtain ⟨a, ha0⟩ : ∃ a : List va_E, a = [] := ⟨_, rfl⟩
  have ej : a.length + j = j := by rw [ha0]; exact Nat.zero_add _
  have h := mk_X4 d (a := a) (j := j) (lv := lv) (rest := rest) (kc := kc) (ks := ks) (Q := Q) hd1 hd2 hd3 hw hnn hj hst hn (by rw [ej, ha0]; exact k)
  rw [ha0] at h; exact h
def O6 (G : gx_G) : va_E := .inr (6, [.ref (gx_N G + 1), .ref (gx_N G + 7), .ref (gx_N G + 11), .ref (gx_N G + 17), .ref (gx_N G + 18), .ref (gx_N G + 27), .ref (gx_N G + 28), .int 0, .int 0])
def P6 (G : gx_G) (br im sh : Nat → Option Nat) : List va_E := [O6 G] ++ W5 G 1 ++ S2 G 7 ++ W5 G 11 ++ [ao G 3 9 br] ++ R4 G 18 ++ [ao G 4 2 im] ++ [ao G 5 4 sh]
def WsL (G : gx_G) : Nat → List va_E
  | 0 => []
  | k + 1 => WsL G k ++ W5 G (29 + 6 * k)
def IsL (G : gx_G) : Nat → List va_E
  | 0 => []
  | k + 1 => IsL G k ++ I0 G (83 + 11 * k)
def HsL (G : gx_G) : Nat → List va_E
  | 0 => []
  | k + 1 => HsL G k ++ H1 G (105 + 2 * k)
def fB (G : gx_G) (b s k : Nat) : Nat → Option Nat := fun j => if j < k then some (gx_N G + (b + s * j)) else none
theorem WsL_len (G : gx_G) (k : Nat) : (WsL G k).length = 6 * k := by
  induction k with
  | zero => rfl
  | succ k ih => show (WsL G k ++ W5 G (29 + 6 * k)).length = _; rw [List.length_append, ih]; show 6 * k + 6 = _; omega
theorem IsL_len (G : gx_G) (k : Nat) : (IsL G k).length = 11 * k := by
  induction k with
  | zero => rfl
  | succ k ih => show (IsL G k ++ I0 G (83 + 11 * k)).length = _; rw [List.length_append, ih]; show 11 * k + 11 = _; omega
theorem HsL_len (G : gx_G) (k : Nat) : (HsL G k).length = 2 * k := by
  induction k with
  | zero => rfl
  | succ k ih => show (HsL G k ++ H1 G (105 + 2 * k)).length = _; rw [List.length_append, ih]; show 2 * k + 2 = _; omega
theorem fB_0 (G : gx_G) (b s : Nat) : fB G b s 0 = fun _ => none := funext fun j => if_neg (Nat.not_lt_zero _)
theorem fB_s (G : gx_G) (b s k : Nat) : va_up (fB G b s k) k (some (gx_N G + (b + s * k))) = fB G b s (k + 1) := by
  funext j
  show (if j = k then some (gx_N G + (b + s * k)) else if j < k then some (gx_N G + (b + s * j)) else none) = if j < k + 1 then some (gx_N G + (b + s * j)) else none
  by_cases e : j = k
  · subst e; rw [if_pos rfl, if_pos (by omega)]
  · rw [if_neg e]
    by_cases h : j < k
    · rw [if_pos h, if_pos (by omega)]
    · rw [if_neg h, if_neg (by omega)]
theorem P6_s17 (G : gx_G) (f g im sh : Nat → Option Nat) (X : List va_E) : (P6 G f im sh ++ X).set 17 (ao G 3 9 g) = P6 G g im sh ++ X := rfl
theorem P6_s27 (G : gx_G) (br f g sh : Nat → Option Nat) (X : List va_E) : (P6 G br f sh ++ X).set 27 (ao G 4 2 g) = P6 G br g sh ++ X := rfl
theorem P6_s28 (G : gx_G) (br im f g : Nat → Option Nat) (X : List va_E) : (P6 G br im f ++ X).set 28 (ao G 5 4 g) = P6 G br im g ++ X := rfl
theorem j6_75_s (G : gx_G) (k : Nat) : ((P6 G (fB G 29 6 k) (fun _ => none) (fun _ => none) ++ WsL G k) ++ W5 G (29 + 6 * k)).set 17 (ao G 3 9 (va_up (fB G 29 6 k) k (some (gx_N G + (29 + 6 * k))))) = (P6 G (fB G 29 6 (k + 1)) (fun _ => none) (fun _ => none) ++ WsL G (k + 1)) := by
  rw [fB_s, show WsL G (k + 1) = WsL G k ++ W5 G (29 + 6 * k) from rfl]
  simp only [List.append_assoc]
  exact P6_s17 _ _ _ _ _ _
theorem j6_75_l (G : gx_G) (k : Nat) : (P6 G (fB G 29 6 k) (fun _ => none) (fun _ => none) ++ WsL G k).length = 29 + 6 * k := by rw [List.length_append, WsL_len]; rfl
theorem j6_75_b (G : gx_G) (k : Nat) : ∃ vs, ((P6 G (fB G 29 6 k) (fun _ => none) (fun _ => none) ++ WsL G k) ++ W5 G (29 + 6 * k))[29 + 6 * k]? = some (.inr (5, vs)) := by
  rw [List.getElem?_append_right (by rw [j6_75_l]; exact Nat.le_refl _), j6_75_l, Nat.sub_self]; exact ⟨_, rfl⟩
theorem j6_75_o (G : gx_G) (k : Nat) (X : List va_E) : ((P6 G (fB G 29 6 k) (fun _ => none) (fun _ => none) ++ WsL G k) ++ X)[0]? = some (O6 G) := by (try simp only [List.append_assoc]); rfl
theorem j6_75_o0 (G : gx_G) (k : Nat) : (P6 G (fB G 29 6 k) (fun _ => none) (fun _ => none) ++ WsL G k)[0]? = some (O6 G) := by (try simp only [List.append_assoc]); rfl
theorem j6_75_a (G : gx_G) (k : Nat) (X : List va_E) : ((P6 G (fB G 29 6 k) (fun _ => none) (fun _ => none) ++ WsL G k) ++ X)[17]? = some (ao G 3 9 (fB G 29 6 k)) := by (try simp only [List.append_assoc]); rfl
theorem j6_75_a0 (G : gx_G) (k : Nat) : (P6 G (fB G 29 6 k) (fun _ => none) (fun _ => none) ++ WsL G k)[17]? = some (ao G 3 9 (fB G 29 6 k)) := by (try simp only [List.append_assoc]); rfl
set_option maxHeartbeats 4000000 in
set_option maxRecDepth 100000 in
theorem j6_75 {G : gx_G} {Q : Option Value → gx_Hp → Prop} (d : Nat) {kc ks : Nat} (knx : gx_J G mX6_init (d + 3) kc ks Q 103 [(0, .ref (gx_N G + 0)), (1, .int (nI 9))] [] (hL G (P6 G (fB G 29 6 9) (fun _ => none) (fun _ => none) ++ WsL G 9))) : ∀ m k, m + k = 9 → gx_J G mX6_init (d + 3) (kc + 6 * m) (ks + 41 * m) Q 75 [(0, .ref (gx_N G + 0)), (1, .int (nI k))] [] (hL G (P6 G (fB G 29 6 k) (fun _ => none) (fun _ => none) ++ WsL G k)) := by
  intro m
  induction m with
  | zero =>
    intro k hk
    have ek : k = 9 := by omega
    subst ek
    refine J_iload_n (i := 1) (n := 76) dX6_init_75 rfl rfl rfl ?_
    refine J_aload_n (i := 0) (n := 77) dX6_init_76 rfl rfl rfl ?_
    refine J_getZ (kk := 3) (j := 0) (n := 80) wk_X6 dX6_init_77 wf_X6_26 (by decide) (j6_75_o0 G _) rfl rfl ?_
    refine J_alenZ (N := 9) (j := 17) (t := 3) (n := 81) dX6_init_80 (j6_75_a0 G _) rfl rfl ?_
    refine J_icmp_ge (tgt := 103) (n := 84) dX6_init_81 (by decide) rfl (fun c_0 => ?_) (fun c_0 => absurd (nI_le (Nat.le_refl _) (by decide)) c_0)
    exact knx
  | succ m ih =>
    intro k hk
    rw [show kc + 6 * (m + 1) = (kc + 6 * m) + 6 by omega, show ks + 41 * (m + 1) = (ks + 41 * m) + 41 by omega]
    refine J_iload_n (i := 1) (n := 76) dX6_init_75 rfl rfl rfl ?_
    refine J_aload_n (i := 0) (n := 77) dX6_init_76 rfl rfl rfl ?_
    refine J_getZ (kk := 3) (j := 0) (n := 80) wk_X6 dX6_init_77 wf_X6_26 (by decide) (j6_75_o0 G _) rfl rfl ?_
    refine J_alenZ (N := 9) (j := 17) (t := 3) (n := 81) dX6_init_80 (j6_75_a0 G _) rfl rfl ?_
    refine J_icmp_ge (tgt := 103) (n := 84) dX6_init_81 (by decide) rfl (fun c_0 => absurd c_0 (nI_ge (by omega) (by decide))) (fun c_0 => ?_)
    refine J_aload_n (i := 0) (n := 85) dX6_init_84 rfl rfl rfl ?_
    refine J_getZ (kk := 3) (j := 0) (n := 88) wk_X6 dX6_init_85 wf_X6_26 (by decide) (j6_75_o0 G _) rfl rfl ?_
    refine J_iload_n (i := 1) (n := 89) dX6_init_88 rfl rfl rfl ?_
    refine mz_X5 (d + 1) (j := 29 + 6 * k) (n := 96) dX6_init_89 dX6_init_92 dX6_init_93 wc_X6_7 wn_X6_9 (j6_75_l G k) (Nat.le_of_ble_eq_true rfl) rfl ?_
    obtain ⟨vs, hvs⟩ := j6_75_b G k
    refine J_aastZ (l' := (P6 G (fB G 29 6 (k + 1)) (fun _ => none) (fun _ => none) ++ WsL G (k + 1))) (N := 9) (t := 3) (ja := 17) (jb := 29 + 6 * k) (i := k) (ci := 5) (r := (RX5, TX5, 11)) dX6_init_96 (j6_75_a G k _) rfl hvs rfl (by omega) (by decide) (j6_75_s G k) rfl ?_
    refine J_inc (i := 1) (n := 100) (lv' := [(0, .ref (gx_N G + 0)), (1, .int (nI (k + 1)))]) dX6_init_97 rfl (by decide) rfl rfl ?_
    refine J_goto (tgt := 75) dX6_init_100 (by decide) ?_
    exact ih (k + 1) (by omega)

theorem j6_105_s (G : gx_G) (k : Nat) : ((P6 G (fB G 29 6 9) (fB G 83 11 k) (fun _ => none) ++ WsL G 9 ++ IsL G k) ++ I0 G (83 + 11 * k)).set 27 (ao G 4 2 (va_up (fB G 83 11 k) k (some (gx_N G + (83 + 11 * k))))) = (P6 G (fB G 29 6 9) (fB G 83 11 (k + 1)) (fun _ => none) ++ WsL G 9 ++ IsL G (k + 1)) := by
  rw [fB_s, show IsL G (k + 1) = IsL G k ++ I0 G (83 + 11 * k) from rfl]
  simp only [List.append_assoc]
  exact P6_s27 _ _ _ _ _ _
theorem j6_105_l (G : gx_G) (k : Nat) : (P6 G (fB G 29 6 9) (fB G 83 11 k) (fun _ => none) ++ WsL G 9 ++ IsL G k).length = 83 + 11 * k := by rw [List.length_append, List.length_append, IsL_len]; rfl
theorem j6_105_b (G : gx_G) (k : Nat) : ∃ vs, ((P6 G (fB G 29 6 9) (fB G 83 11 k) (fun _ => none) ++ WsL G 9 ++ IsL G k) ++ I0 G (83 + 11 * k))[83 + 11 * k]? = some (.inr (0, vs)) := by
  rw [List.getElem?_append_right (by rw [j6_105_l]; exact Nat.le_refl _), j6_105_l, Nat.sub_self]; exact ⟨_, rfl⟩
theorem j6_105_o (G : gx_G) (k : Nat) (X : List va_E) : ((P6 G (fB G 29 6 9) (fB G 83 11 k) (fun _ => none) ++ WsL G 9 ++ IsL G k) ++ X)[0]? = some (O6 G) := by (try simp only [List.append_assoc]); rfl
theorem j6_105_o0 (G : gx_G) (k : Nat) : (P6 G (fB G 29 6 9) (fB G 83 11 k) (fun _ => none) ++ WsL G 9 ++ IsL G k)[0]? = some (O6 G) := by (try simp only [List.append_assoc]); rfl
theorem j6_105_a (G : gx_G) (k : Nat) (X : List va_E) : ((P6 G (fB G 29 6 9) (fB G 83 11 k) (fun _ => none) ++ WsL G 9 ++ IsL G k) ++ X)[27]? = some (ao G 4 2 (fB G 83 11 k)) := by (try simp only [List.append_assoc]); rfl
theorem j6_105_a0 (G : gx_G) (k : Nat) : (P6 G (fB G 29 6 9) (fB G 83 11 k) (fun _ => none) ++ WsL G 9 ++ IsL G k)[27]? = some (ao G 4 2 (fB G 83 11 k)) := by (try simp only [List.append_assoc]); rfl
set_option maxHeartbeats 4000000 in
set_option maxRecDepth 100000 in
theorem j6_105 {G : gx_G} {Q : Option Value → gx_Hp → Prop} (d : Nat) {kc ks : Nat} (knx : gx_J G mX6_init (d + 3) kc ks Q 133 [(0, .ref (gx_N G + 0)), (1, .int (nI 2))] [] (hL G (P6 G (fB G 29 6 9) (fB G 83 11 2) (fun _ => none) ++ WsL G 9 ++ IsL G 2))) : ∀ m k, m + k = 2 → gx_J G mX6_init (d + 3) (kc + 11 * m) (ks + 66 * m) Q 105 [(0, .ref (gx_N G + 0)), (1, .int (nI k))] [] (hL G (P6 G (fB G 29 6 9) (fB G 83 11 k) (fun _ => none) ++ WsL G 9 ++ IsL G k)) := by
  intro m
  induction m with
  | zero =>
    intro k hk
    have ek : k = 2 := by omega
    subst ek
    refine J_iload_n (i := 1) (n := 106) dX6_init_105 rfl rfl rfl ?_
    refine J_aload_n (i := 0) (n := 107) dX6_init_106 rfl rfl rfl ?_
    refine J_getZ (kk := 5) (j := 0) (n := 110) wk_X6 dX6_init_107 wf_X6_39 (by decide) (j6_105_o0 G _) rfl rfl ?_
    refine J_alenZ (N := 2) (j := 27) (t := 4) (n := 111) dX6_init_110 (j6_105_a0 G _) rfl rfl ?_
    refine J_icmp_ge (tgt := 133) (n := 114) dX6_init_111 (by decide) rfl (fun c_0 => ?_) (fun c_0 => absurd (nI_le (Nat.le_refl _) (by decide)) c_0)
    exact knx
  | succ m ih =>
    intro k hk
    rw [show kc + 11 * (m + 1) = (kc + 11 * m) + 11 by omega, show ks + 66 * (m + 1) = (ks + 66 * m) + 66 by omega]
    refine J_iload_n (i := 1) (n := 106) dX6_init_105 rfl rfl rfl ?_
    refine J_aload_n (i := 0) (n := 107) dX6_init_106 rfl rfl rfl ?_
    refine J_getZ (kk := 5) (j := 0) (n := 110) wk_X6 dX6_init_107 wf_X6_39 (by decide) (j6_105_o0 G _) rfl rfl ?_
    refine J_alenZ (N := 2) (j := 27) (t := 4) (n := 111) dX6_init_110 (j6_105_a0 G _) rfl rfl ?_
    refine J_icmp_ge (tgt := 133) (n := 114) dX6_init_111 (by decide) rfl (fun c_0 => absurd c_0 (nI_ge (by omega) (by decide))) (fun c_0 => ?_)
    refine J_aload_n (i := 0) (n := 115) dX6_init_114 rfl rfl rfl ?_
    refine J_getZ (kk := 5) (j := 0) (n := 118) wk_X6 dX6_init_115 wf_X6_39 (by decide) (j6_105_o0 G _) rfl rfl ?_
    refine J_iload_n (i := 1) (n := 119) dX6_init_118 rfl rfl rfl ?_
    refine mz_X0 (d) (j := 83 + 11 * k) (n := 126) dX6_init_119 dX6_init_122 dX6_init_123 wc_X6_37 wn_X6_49 (j6_105_l G k) (Nat.le_of_ble_eq_true rfl) rfl ?_
    obtain ⟨vs, hvs⟩ := j6_105_b G k
    refine J_aastZ (l' := (P6 G (fB G 29 6 9) (fB G 83 11 (k + 1)) (fun _ => none) ++ WsL G 9 ++ IsL G (k + 1))) (N := 2) (t := 4) (ja := 27) (jb := 83 + 11 * k) (i := k) (ci := 0) (r := (RX0, TX0, 3)) dX6_init_126 (j6_105_a G k _) rfl hvs rfl (by omega) (by decide) (j6_105_s G k) rfl ?_
    refine J_inc (i := 1) (n := 130) (lv' := [(0, .ref (gx_N G + 0)), (1, .int (nI (k + 1)))]) dX6_init_127 rfl (by decide) rfl rfl ?_
    refine J_goto (tgt := 105) dX6_init_130 (by decide) ?_
    exact ih (k + 1) (by omega)

theorem j6_135_s (G : gx_G) (k : Nat) : ((P6 G (fB G 29 6 9) (fB G 83 11 2) (fB G 105 2 k) ++ (WsL G 9 ++ IsL G 2) ++ HsL G k) ++ H1 G (105 + 2 * k)).set 28 (ao G 5 4 (va_up (fB G 105 2 k) k (some (gx_N G + (105 + 2 * k))))) = (P6 G (fB G 29 6 9) (fB G 83 11 2) (fB G 105 2 (k + 1)) ++ (WsL G 9 ++ IsL G 2) ++ HsL G (k + 1)) := by
  rw [fB_s, show HsL G (k + 1) = HsL G k ++ H1 G (105 + 2 * k) from rfl]
  simp only [List.append_assoc]
  exact P6_s28 _ _ _ _ _ _
theorem j6_135_l (G : gx_G) (k : Nat) : (P6 G (fB G 29 6 9) (fB G 83 11 2) (fB G 105 2 k) ++ (WsL G 9 ++ IsL G 2) ++ HsL G k).length = 105 + 2 * k := by rw [List.length_append, List.length_append, HsL_len]; rfl
theorem j6_135_b (G : gx_G) (k : Nat) : ∃ vs, ((P6 G (fB G 29 6 9) (fB G 83 11 2) (fB G 105 2 k) ++ (WsL G 9 ++ IsL G 2) ++ HsL G k) ++ H1 G (105 + 2 * k))[105 + 2 * k]? = some (.inr (1, vs)) := by
  rw [List.getElem?_append_right (by rw [j6_135_l]; exact Nat.le_refl _), j6_135_l, Nat.sub_self]; exact ⟨_, rfl⟩
theorem j6_135_o (G : gx_G) (k : Nat) (X : List va_E) : ((P6 G (fB G 29 6 9) (fB G 83 11 2) (fB G 105 2 k) ++ (WsL G 9 ++ IsL G 2) ++ HsL G k) ++ X)[0]? = some (O6 G) := by (try simp only [List.append_assoc]); rfl
theorem j6_135_o0 (G : gx_G) (k : Nat) : (P6 G (fB G 29 6 9) (fB G 83 11 2) (fB G 105 2 k) ++ (WsL G 9 ++ IsL G 2) ++ HsL G k)[0]? = some (O6 G) := by (try simp only [List.append_assoc]); rfl
theorem j6_135_a (G : gx_G) (k : Nat) (X : List va_E) : ((P6 G (fB G 29 6 9) (fB G 83 11 2) (fB G 105 2 k) ++ (WsL G 9 ++ IsL G 2) ++ HsL G k) ++ X)[28]? = some (ao G 5 4 (fB G 105 2 k)) := by (try simp only [List.append_assoc]); rfl
theorem j6_135_a0 (G : gx_G) (k : Nat) : (P6 G (fB G 29 6 9) (fB G 83 11 2) (fB G 105 2 k) ++ (WsL G 9 ++ IsL G 2) ++ HsL G k)[28]? = some (ao G 5 4 (fB G 105 2 k)) := by (try simp only [List.append_assoc]); rfl
set_option maxHeartbeats 4000000 in
set_option maxRecDepth 100000 in
theorem j6_135 {G : gx_G} {Q : Option Value → gx_Hp → Prop} (d : Nat) {kc ks : Nat} (knx : gx_J G mX6_init (d + 3) kc ks Q 163 [(0, .ref (gx_N G + 0)), (1, .int (nI 4))] [] (hL G (P6 G (fB G 29 6 9) (fB G 83 11 2) (fB G 105 2 4) ++ (WsL G 9 ++ IsL G 2) ++ HsL G 4))) : ∀ m k, m + k = 4 → gx_J G mX6_init (d + 3) (kc + 2 * m) (ks + 43 * m) Q 135 [(0, .ref (gx_N G + 0)), (1, .int (nI k))] [] (hL G (P6 G (fB G 29 6 9) (fB G 83 11 2) (fB G 105 2 k) ++ (WsL G 9 ++ IsL G 2) ++ HsL G k)) := by
  intro m
  induction m with
  | zero =>
    intro k hk
    have ek : k = 4 := by omega
    subst ek
    refine J_iload_n (i := 1) (n := 136) dX6_init_135 rfl rfl rfl ?_
    refine J_aload_n (i := 0) (n := 137) dX6_init_136 rfl rfl rfl ?_
    refine J_getZ (kk := 6) (j := 0) (n := 140) wk_X6 dX6_init_137 wf_X6_45 (by decide) (j6_135_o0 G _) rfl rfl ?_
    refine J_alenZ (N := 4) (j := 28) (t := 5) (n := 141) dX6_init_140 (j6_135_a0 G _) rfl rfl ?_
    refine J_icmp_ge (tgt := 163) (n := 144) dX6_init_141 (by decide) rfl (fun c_0 => ?_) (fun c_0 => absurd (nI_le (Nat.le_refl _) (by decide)) c_0)
    exact knx
  | succ m ih =>
    intro k hk
    rw [show kc + 2 * (m + 1) = (kc + 2 * m) + 2 by omega, show ks + 43 * (m + 1) = (ks + 43 * m) + 43 by omega]
    refine J_iload_n (i := 1) (n := 136) dX6_init_135 rfl rfl rfl ?_
    refine J_aload_n (i := 0) (n := 137) dX6_init_136 rfl rfl rfl ?_
    refine J_getZ (kk := 6) (j := 0) (n := 140) wk_X6 dX6_init_137 wf_X6_45 (by decide) (j6_135_o0 G _) rfl rfl ?_
    refine J_alenZ (N := 4) (j := 28) (t := 5) (n := 141) dX6_init_140 (j6_135_a0 G _) rfl rfl ?_
    refine J_icmp_ge (tgt := 163) (n := 144) dX6_init_141 (by decide) rfl (fun c_0 => absurd c_0 (nI_ge (by omega) (by decide))) (fun c_0 => ?_)
    refine J_aload_n (i := 0) (n := 145) dX6_init_144 rfl rfl rfl ?_
    refine J_getZ (kk := 6) (j := 0) (n := 148) wk_X6 dX6_init_145 wf_X6_45 (by decide) (j6_135_o0 G _) rfl rfl ?_
    refine J_iload_n (i := 1) (n := 149) dX6_init_148 rfl rfl rfl ?_
    refine mz_X1 (d + 1) (j := 105 + 2 * k) (n := 156) dX6_init_149 dX6_init_152 dX6_init_153 wc_X6_43 wn_X6_50 (j6_135_l G k) (Nat.le_of_ble_eq_true rfl) rfl ?_
    obtain ⟨vs, hvs⟩ := j6_135_b G k
    refine J_aastZ (l' := (P6 G (fB G 29 6 9) (fB G 83 11 2) (fB G 105 2 (k + 1)) ++ (WsL G 9 ++ IsL G 2) ++ HsL G (k + 1))) (N := 4) (t := 5) (ja := 28) (jb := 105 + 2 * k) (i := k) (ci := 1) (r := (RX1, TX1, 3)) dX6_init_156 (j6_135_a G k _) rfl hvs rfl (by omega) (by decide) (j6_135_s G k) rfl ?_
    refine J_inc (i := 1) (n := 160) (lv' := [(0, .ref (gx_N G + 0)), (1, .int (nI (k + 1)))]) dX6_init_157 rfl (by decide) rfl rfl ?_
    refine J_goto (tgt := 135) dX6_init_160 (by decide) ?_
    exact ih (k + 1) (by omega)

theorem e6_75 (G : gx_G) : P6 G (fun _ => none) (fun _ => none) (fun _ => none) = P6 G (fB G 29 6 0) (fun _ => none) (fun _ => none) ++ WsL G 0 := by rw [fB_0]; exact (List.append_nil _).symm
theorem e6_105 (G : gx_G) : P6 G (fB G 29 6 9) (fun _ => none) (fun _ => none) ++ WsL G 9 = P6 G (fB G 29 6 9) (fB G 83 11 0) (fun _ => none) ++ WsL G 9 ++ IsL G 0 := by rw [fB_0]; exact (List.append_nil _).symm
theorem e6_135 (G : gx_G) : P6 G (fB G 29 6 9) (fB G 83 11 2) (fun _ => none) ++ WsL G 9 ++ IsL G 2 = P6 G (fB G 29 6 9) (fB G 83 11 2) (fB G 105 2 0) ++ (WsL G 9 ++ IsL G 2) ++ HsL G 0 := by rw [fB_0, List.append_assoc]; exact (List.append_nil _).symm
def z6 : List Value := [.null, .null, .null, .null, .null, .null, .null, .int 0, .int 0]
def L6 (G : gx_G) : List va_E := P6 G (fB G 29 6 9) (fB G 83 11 2) (fB G 105 2 4) ++ (WsL G 9 ++ IsL G 2) ++ HsL G 4
set_option maxHeartbeats 4000000 in
set_option maxRecDepth 100000 in
theorem i6_a {G : gx_G} {Q : Option Value → gx_Hp → Prop} (d : Nat) (k : gx_J G mX6_init (d + 3) 84 673 Q 75 [(0, .ref (gx_N G + 0)), (1, .int (nI 0))] [] (hL G (P6 G (fun _ => none) (fun _ => none) (fun _ => none)))) : gx_K G yX6_init mX6_init (d + 3) 112 1005 [.ref (gx_N G + 0)] (hL G [.inr (6, z6)]) Q := by
  refine gx_K.of' (lv := [(0, _)]) (by decide) rfl (by decide) (Nat.le_of_ble_eq_true rfl) rfl ?_
  refine J_aload_n (i := 0) (n := 1) dX6_init_0 rfl rfl rfl ?_
  refine J_objInit (n := 4) dX6_init_1 wm_X6_1 wo_1 wo_2 (Nat.le_of_ble_eq_true rfl) rfl ?_
  refine J_aload_n (i := 0) (n := 5) dX6_init_4 rfl rfl rfl ?_
  refine mz_X5 (d + 1) (j := 1) (n := 12) dX6_init_5 dX6_init_8 dX6_init_9 wc_X6_7 wn_X6_9 rfl (Nat.le_of_ble_eq_true rfl) rfl ?_
  refine J_putZ (kk := 0) (j := 0) (n := 15) wk_X6 dX6_init_12 wf_X6_10 (by decide) rfl (by decide) rfl rfl (Nat.le_of_ble_eq_true rfl) rfl rfl ?_
  refine J_aload_n (i := 0) (n := 16) dX6_init_15 rfl rfl rfl ?_
  refine mz_X2 (d + 1) (j := 7) (n := 23) dX6_init_16 dX6_init_19 dX6_init_20 wc_X6_16 wn_X6_18 rfl (Nat.le_of_ble_eq_true rfl) rfl ?_
  refine J_putZ (kk := 1) (j := 0) (n := 26) wk_X6 dX6_init_23 wf_X6_19 (by decide) rfl (by decide) rfl rfl (Nat.le_of_ble_eq_true rfl) rfl rfl ?_
  refine J_aload_n (i := 0) (n := 27) dX6_init_26 rfl rfl rfl ?_
  refine mz_X5 (d + 1) (j := 11) (n := 34) dX6_init_27 dX6_init_30 dX6_init_31 wc_X6_7 wn_X6_9 rfl (Nat.le_of_ble_eq_true rfl) rfl ?_
  refine J_putZ (kk := 2) (j := 0) (n := 37) wk_X6 dX6_init_34 wf_X6_23 (by decide) rfl (by decide) rfl rfl (Nat.le_of_ble_eq_true rfl) rfl rfl ?_
  refine J_aload_n (i := 0) (n := 38) dX6_init_37 rfl rfl rfl ?_
  refine J_bipush (n := 40) dX6_init_38 kB_9 rfl ?_
  refine J_anewZ (N := 9) (j := 17) (t := 3) (n := 43) dX6_init_40 wc_X6_7 (by decide) rfl rfl (by decide) rfl rfl ?_
  refine J_putZ (kk := 3) (j := 0) (n := 46) wk_X6 dX6_init_43 wf_X6_26 (by decide) rfl (by decide) rfl rfl (Nat.le_of_ble_eq_true rfl) rfl rfl ?_
  refine J_aload_n (i := 0) (n := 47) dX6_init_46 rfl rfl rfl ?_
  refine mz_X4 (d) (j := 18) (n := 54) dX6_init_47 dX6_init_50 dX6_init_51 wc_X6_30 wn_X6_32 rfl (Nat.le_of_ble_eq_true rfl) rfl ?_
  refine J_putZ (kk := 4) (j := 0) (n := 57) wk_X6 dX6_init_54 wf_X6_33 (by decide) rfl (by decide) rfl rfl (Nat.le_of_ble_eq_true rfl) rfl rfl ?_
  refine J_aload_n (i := 0) (n := 58) dX6_init_57 rfl rfl rfl ?_
  refine J_iconst (n := 59) dX6_init_58 kI_2 rfl ?_
  refine J_anewZ (N := 2) (j := 27) (t := 4) (n := 62) dX6_init_59 wc_X6_37 (by decide) rfl rfl (by decide) rfl rfl ?_
  refine J_putZ (kk := 5) (j := 0) (n := 65) wk_X6 dX6_init_62 wf_X6_39 (by decide) rfl (by decide) rfl rfl (Nat.le_of_ble_eq_true rfl) rfl rfl ?_
  refine J_aload_n (i := 0) (n := 66) dX6_init_65 rfl rfl rfl ?_
  refine J_iconst (n := 67) dX6_init_66 kI_4 rfl ?_
  refine J_anewZ (N := 4) (j := 28) (t := 5) (n := 70) dX6_init_67 wc_X6_43 (by decide) rfl rfl (by decide) rfl rfl ?_
  refine J_putZ (kk := 6) (j := 0) (n := 73) wk_X6 dX6_init_70 wf_X6_45 (by decide) rfl (by decide) rfl rfl (Nat.le_of_ble_eq_true rfl) rfl rfl ?_
  refine J_iconst (n := 74) dX6_init_73 kI_0 rfl ?_
  refine J_istore_n (i := 1) (n := 75) (lv' := [(0, .ref (gx_N G + 0)), (1, .int (nI 0))]) dX6_init_74 rfl (by decide) rfl rfl ?_
  exact k

set_option maxHeartbeats 4000000 in
set_option maxRecDepth 100000 in
theorem i_X6 {G : gx_G} {Q : Option Value → gx_Hp → Prop} (d : Nat) (hq : Q none (hL G (L6 G))) : gx_K G yX6_init mX6_init (d + 3) 112 1005 [.ref (gx_N G + 0)] (hL G [.inr (6, z6)]) Q := by
  refine i6_a d ?_
  rw [e6_75]
  refine j6_75 (kc := 30) (ks := 304) d ?_ 9 0 rfl
  refine J_iconst (n := 104) dX6_init_103 kI_0 rfl ?_
  refine J_istore_n (i := 1) (n := 105) (lv' := [(0, .ref (gx_N G + 0)), (1, .int (nI 0))]) dX6_init_104 rfl (by decide) rfl rfl ?_
  rw [e6_105]
  refine j6_105 (kc := 8) (ks := 172) d ?_ 2 0 rfl
  refine J_iconst (n := 134) dX6_init_133 kI_0 rfl ?_
  refine J_istore_n (i := 1) (n := 135) (lv' := [(0, .ref (gx_N G + 0)), (1, .int (nI 0))]) dX6_init_134 rfl (by decide) rfl rfl ?_
  rw [e6_135]
  refine j6_135 (kc := 0) (ks := 0) d ?_ 4 0 rfl
  refine J_vret dX6_init_163 rfl ?_
  exact hq

