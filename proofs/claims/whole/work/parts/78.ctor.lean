/-! ===== the constructors, over a heap that is a row of cells ===== -/
def hL (G : gx_G) (l : List va_E) : gx_Hp := (gx_N G + l.length, fun a => if a < gx_N G then none else l[a - gx_N G]?)
theorem hL_push (G : gx_G) (l : List va_E) (c : va_E) : gx_push (hL G l) c = hL G (l ++ [c]) := by
  unfold gx_push hL
  refine Prod.ext (by simp; omega) (funext fun q => ?_)
  show (if q = gx_N G + l.length then some c else if q < gx_N G then none else l[q - gx_N G]?) = if q < gx_N G then none else (l ++ [c])[q - gx_N G]?
  by_cases h1 : q < gx_N G
  · rw [if_neg (by omega), if_pos h1, if_pos h1]
  · rw [if_neg h1, if_neg h1]
    by_cases h2 : q = gx_N G + l.length
    · rw [if_pos h2, List.getElem?_append_right (by omega), show q - gx_N G - l.length = 0 by omega]; rfl
    · rw [if_neg h2]
      by_cases h3 : q - gx_N G < l.length
      · rw [List.getElem?_append_left h3]
      · rw [List.getElem?_eq_none (by omega), List.getElem?_eq_none (by simp; omega)]
theorem hL_up (G : gx_G) (l : List va_E) (j : Nat) (c : va_E) (hj : j < l.length) : gx_up (hL G l) (gx_N G + j) c = hL G (l.set j c) := by
  unfold gx_up hL
  refine Prod.ext (by simp) (funext fun q => ?_)
  show (if q = gx_N G + j then some c else if q < gx_N G then none else l[q - gx_N G]?) = if q < gx_N G then none else (l.set j c)[q - gx_N G]?
  by_cases h1 : q < gx_N G
  · rw [if_neg (by omega), if_pos h1, if_pos h1]
  · rw [if_neg h1, if_neg h1]
    by_cases h2 : q = gx_N G + j
    · rw [if_pos h2, show q - gx_N G = j by omega, List.getElem?_set_self hj]
    · rw [if_neg h2, List.getElem?_set_ne (by omega)]
theorem hL_at (G : gx_G) (l : List va_E) (j : Nat) : (hL G l).2 (gx_N G + j) = l[j]? := by
  show (if gx_N G + j < gx_N G then none else l[gx_N G + j - gx_N G]?) = l[j]?
  rw [if_neg (by omega), show gx_N G + j - gx_N G = j by omega]
theorem set_app (a l : List va_E) (j : Nat) (c : va_E) : (a ++ l).set (a.length + j) c = a ++ l.set j c := by
  rw [List.set_append_right _ _ (by omega), Nat.add_sub_cancel_left]
theorem get_app (a l : List va_E) (j : Nat) : (a ++ l)[a.length + j]? = l[j]? := by
  rw [List.getElem?_append_right (by omega), Nat.add_sub_cancel_left]
def ai (G : gx_G) (k : Nat) : va_E := .inl (G.2.1 0, k, .inl (fun _ => 0))
theorem J_newaL {G : gx_G} {M : gx_M} {d kc ks : Nat} {Q : Option Value → gx_Hp → Prop} {pc n : Nat} {lv : List (Nat × Value)} {rest : List Value} {a l l' : List va_E} {N j : Nat} (hd : decode M.2.1 pc = .ok (.newarray .int, 2)) (hj : l.length = j) (hN : N < 1000) (hl : l ++ [ai G N] = l') (hn : pc + 2 = n) (k : gx_J G M d kc ks Q n lv (.ref (gx_N G + (a.length + j)) :: rest) (hL G (a ++ l'))) : gx_J G M d (kc + 1) (ks + N) Q pc lv (.int (nI N) :: rest) (hL G (a ++ l)) := by
  refine J_newa (t := 0) (cA := G.2.1 0) (N := N) (a0 := (N, .inl (fun _ => 0))) hd wa_int rfl (fun C h => by cases h) rfl (nI_pos (by omega)) (nI_clamp (by omega)) (by show N * 4 ≤ 536870912; omega) hn ?_
  rw [hL_push, List.append_assoc, show (.inl (G.2.1 0, (N, .inl (fun _ => 0))) : va_E) = ai G N from rfl, hl]
  have e : (hL G (a ++ l)).1 = gx_N G + (a.length + j) := by show gx_N G + (a ++ l).length = _; rw [List.length_append, hj]
  rw [e]; exact k
theorem J_putL {G : gx_G} {M : gx_M} {d kc ks : Nat} {Q : Option Value → gx_Hp → Prop} {pc n : Nat} {lv : List (Nat × Value)} {rest : List Value} {a l l' : List va_E} {ci : Nat} {C : String} {T : u_T} {N : Nat} {ty : Nat → FieldType} (hcl : gx_clOk ci C T N ty) {index kk j : Nat} {fs : List Value} {v : Value} (hd : decode M.2.1 pc = .ok (.putfield index, 3)) (hw : Cond.fieldLink M.1 index (T kk).1 (T kk).2.1 (T kk).2.2.1 ∈ gx_ws) (hk : kk < N) (ha : l[j]? = some (.inr (ci, fs))) (hfin : (T kk).2.2.2 = false ∨ ((T kk).2.2.2 = true ∧ M.2.2.2.2 = true ∧ (T kk).1 = M.1)) (hnar : narrow (ty kk) v = v) (hfit : fits (ty kk) v = true) (hlen : kk < fs.length) (hl : l.set j (.inr (ci, fs.set kk v)) = l') (hn : pc + 3 = n) (k : gx_J G M d kc ks Q n lv rest (hL G (a ++ l'))) : gx_J G M d kc ks Q pc lv (v :: .ref (gx_N G + (a.length + j)) :: rest) (hL G (a ++ l)) := by
  refine J_put hcl hd hw hk ((hL_at G _ _).trans ((get_app a l j).trans ha)) hfin hnar hfit hlen hn ?_
  have hjl : j < l.length := (List.getElem?_eq_some_iff.mp ha).1
  rw [hL_up G _ _ _ (by rw [List.length_append]; omega), set_app, hl]
  exact k
theorem J_getL {G : gx_G} {M : gx_M} {d kc ks : Nat} {Q : Option Value → gx_Hp → Prop} {pc n : Nat} {lv : List (Nat × Value)} {rest : List Value} {a l : List va_E} {ci : Nat} {C : String} {T : u_T} {N : Nat} {ty : Nat → FieldType} (hcl : gx_clOk ci C T N ty) {index kk j : Nat} {fs : List Value} {v : Value} (hd : decode M.2.1 pc = .ok (.getfield index, 3)) (hw : Cond.fieldLink M.1 index (T kk).1 (T kk).2.1 (T kk).2.2.1 ∈ gx_ws) (hk : kk < N) (ha : l[j]? = some (.inr (ci, fs))) (hv : fs[kk]? = some v) (hn : pc + 3 = n) (k : gx_J G M d kc ks Q n lv (v :: rest) (hL G (a ++ l))) : gx_J G M d kc ks Q pc lv (.ref (gx_N G + (a.length + j)) :: rest) (hL G (a ++ l)) := J_get hcl hd hw hk ((hL_at G _ _).trans ((get_app a l j).trans ha)) hv hn k
theorem J_newL {G : gx_G} {M : gx_M} {d kc ks : Nat} {Q : Option Value → gx_Hp → Prop} {pc n : Nat} {lv : List (Nat × Value)} {rest : List Value} {a l l' : List va_E} {ci : Nat} {C : String} {T : u_T} {N : Nat} {ty : Nat → FieldType} (hcl : gx_clOk ci C T N ty) {index j : Nat} {fs : List Value} (hd : decode M.2.1 pc = .ok (.new index, 3)) (hw : Cond.classLink M.1 index C ∈ gx_ws) (hw1 : Cond.instantiable C N ∈ gx_ws) (hw2 : Cond.initialized C ∈ gx_ws) (hfs : ∀ j, j < N → defaultValue (ty j) = vp_V fs j) (hj : l.length = j) (hl : l ++ [.inr (ci, fs)] = l') (hn : pc + 3 = n) (k : gx_J G M d kc ks Q n lv (.ref (gx_N G + (a.length + j)) :: rest) (hL G (a ++ l'))) : gx_J G M d (kc + 1) (ks + N) Q pc lv rest (hL G (a ++ l)) := by
  refine J_new hcl hd hw hw1 hw2 hfs hn ?_
  rw [hL_push, List.append_assoc, hl]
  have e : (hL G (a ++ l)).1 = gx_N G + (a.length + j) := by show gx_N G + (a ++ l).length = _; rw [List.length_append, hj]
  rw [e]; exact k
def z11 : List Value := [.null, .null, .null, .null, .null, .int 0, .int 0, .int 0, .int 0, .int 0, .int 0]
def W5 (G : gx_G) (n : Nat) : List va_E := [.inr (5, [.ref (gx_N G + (n + 1)), .ref (gx_N G + (n + 2)), .ref (gx_N G + (n + 3)), .ref (gx_N G + (n + 4)), .ref (gx_N G + (n + 5)), .int 0, .int 0, .int 0, .int 0, .int 0, .int 0]), ai G 12, ai G 4, ai G 4, ai G 4, ai G 6]
set_option maxHeartbeats 4000000 in
set_option maxRecDepth 100000 in
theorem i_X5 {G : gx_G} {Q : Option Value → gx_Hp → Prop} (d : Nat) (a : List va_E) (hq : Q none (hL G (a ++ W5 G a.length))) : gx_K G yX5_init mX5_init (d + 1) 5 30 [.ref (gx_N G + (a.length + 0))] (hL G (a ++ [.inr (5, z11)])) Q := by
  refine gx_K.of' (lv := [(0, _)]) (by decide) rfl (by decide) (Nat.le_of_ble_eq_true rfl) rfl ?_
  refine J_aload_n (i := 0) (n := 1) dX5_init_0 rfl rfl rfl ?_
  refine J_objInit (n := 4) dX5_init_1 wm_X5_3 wo_1 wo_2 (Nat.le_of_ble_eq_true rfl) rfl ?_
  refine J_aload_n (i := 0) (n := 5) dX5_init_4 rfl rfl rfl ?_
  refine J_bipush (n := 7) dX5_init_5 kB_12 rfl ?_
  refine J_newaL (N := 12) (j := 1) (n := 9) dX5_init_7 rfl (by decide) rfl rfl ?_
  refine J_putL (kk := 0) (j := 0) (n := 12) wk_X5 dX5_init_9 wf_X5_9 (by decide) rfl (by decide) rfl rfl (Nat.le_of_ble_eq_true rfl) rfl rfl ?_
  refine J_aload_n (i := 0) (n := 13) dX5_init_12 rfl rfl rfl ?_
  refine J_iconst (n := 14) dX5_init_13 kI_4 rfl ?_
  refine J_newaL (N := 4) (j := 2) (n := 16) dX5_init_14 rfl (by decide) rfl rfl ?_
  refine J_putL (kk := 1) (j := 0) (n := 19) wk_X5 dX5_init_16 wf_X5_15 (by decide) rfl (by decide) rfl rfl (Nat.le_of_ble_eq_true rfl) rfl rfl ?_
  refine J_aload_n (i := 0) (n := 20) dX5_init_19 rfl rfl rfl ?_
  refine J_iconst (n := 21) dX5_init_20 kI_4 rfl ?_
  refine J_newaL (N := 4) (j := 3) (n := 23) dX5_init_21 rfl (by decide) rfl rfl ?_
  refine J_putL (kk := 2) (j := 0) (n := 26) wk_X5 dX5_init_23 wf_X5_18 (by decide) rfl (by decide) rfl rfl (Nat.le_of_ble_eq_true rfl) rfl rfl ?_
  refine J_aload_n (i := 0) (n := 27) dX5_init_26 rfl rfl rfl ?_
  refine J_iconst (n := 28) dX5_init_27 kI_4 rfl ?_
  refine J_newaL (N := 4) (j := 4) (n := 30) dX5_init_28 rfl (by decide) rfl rfl ?_
  refine J_putL (kk := 3) (j := 0) (n := 33) wk_X5 dX5_init_30 wf_X5_21 (by decide) rfl (by decide) rfl rfl (Nat.le_of_ble_eq_true rfl) rfl rfl ?_
  refine J_aload_n (i := 0) (n := 34) dX5_init_33 rfl rfl rfl ?_
  refine J_bipush (n := 36) dX5_init_34 kB_6 rfl ?_
  refine J_newaL (N := 6) (j := 5) (n := 38) dX5_init_36 rfl (by decide) rfl rfl ?_
  refine J_putL (kk := 4) (j := 0) (n := 41) wk_X5 dX5_init_38 wf_X5_24 (by decide) rfl (by decide) rfl rfl (Nat.le_of_ble_eq_true rfl) rfl rfl ?_
  refine J_vret dX5_init_41 rfl ?_
  exact hq

def S2 (G : gx_G) (n : Nat) : List va_E := [.inr (2, [.ref (gx_N G + (n + 1)), .ref (gx_N G + (n + 2)), .ref (gx_N G + (n + 3)), .int 0]), ai G 6, ai G 6, ai G 6]
def H1 (G : gx_G) (n : Nat) : List va_E := [.inr (1, [.ref (gx_N G + (n + 1)), .int (-1), .int 0]), ai G 40]
def T3 (G : gx_G) (n : Nat) : List va_E := [.inr (3, [.ref (gx_N G + (n + 1)), .int 0]), .inl (G.2.1 1, 160, .inl (fun _ => 0))]
def I0 (G : gx_G) (n : Nat) : List va_E := [.inr (0, [.ref (gx_N G + (n + 1)), .ref (gx_N G + (n + 7)), .int 0])] ++ W5 G (n + 1) ++ S2 G (n + 7)
set_option maxHeartbeats 4000000 in
set_option maxRecDepth 100000 in
theorem i_X2 {G : gx_G} {Q : Option Value → gx_Hp → Prop} (d : Nat) (a : List va_E) (hq : Q none (hL G (a ++ S2 G a.length))) : gx_K G yX2_init mX2_init (d + 1) 3 18 [.ref (gx_N G + (a.length + 0))] (hL G (a ++ [.inr (2, [.null, .null, .null, .int 0])])) Q := by
  refine gx_K.of' (lv := [(0, _)]) (by decide) rfl (by decide) (Nat.le_of_ble_eq_true rfl) rfl ?_
  refine J_aload_n (i := 0) (n := 1) dX2_init_0 rfl rfl rfl ?_
  refine J_objInit (n := 4) dX2_init_1 wm_X2_3 wo_1 wo_2 (Nat.le_of_ble_eq_true rfl) rfl ?_
  refine J_aload_n (i := 0) (n := 5) dX2_init_4 rfl rfl rfl ?_
  refine J_bipush (n := 7) dX2_init_5 kB_6 rfl ?_
  refine J_newaL (N := 6) (j := 1) (n := 9) dX2_init_7 rfl (by decide) rfl rfl ?_
  refine J_putL (kk := 0) (j := 0) (n := 12) wk_X2 dX2_init_9 wf_X2_9 (by decide) rfl (by decide) rfl rfl (Nat.le_of_ble_eq_true rfl) rfl rfl ?_
  refine J_aload_n (i := 0) (n := 13) dX2_init_12 rfl rfl rfl ?_
  refine J_bipush (n := 15) dX2_init_13 kB_6 rfl ?_
  refine J_newaL (N := 6) (j := 2) (n := 17) dX2_init_15 rfl (by decide) rfl rfl ?_
  refine J_putL (kk := 1) (j := 0) (n := 20) wk_X2 dX2_init_17 wf_X2_15 (by decide) rfl (by decide) rfl rfl (Nat.le_of_ble_eq_true rfl) rfl rfl ?_
  refine J_aload_n (i := 0) (n := 21) dX2_init_20 rfl rfl rfl ?_
  refine J_bipush (n := 23) dX2_init_21 kB_6 rfl ?_
  refine J_newaL (N := 6) (j := 3) (n := 25) dX2_init_23 rfl (by decide) rfl rfl ?_
  refine J_putL (kk := 2) (j := 0) (n := 28) wk_X2 dX2_init_25 wf_X2_18 (by decide) rfl (by decide) rfl rfl (Nat.le_of_ble_eq_true rfl) rfl rfl ?_
  refine J_vret dX2_init_28 rfl ?_
  exact hq

set_option maxHeartbeats 4000000 in
set_option maxRecDepth 100000 in
theorem i_X1 {G : gx_G} {Q : Option Value → gx_Hp → Prop} (d : Nat) (a : List va_E) (hq : Q none (hL G (a ++ H1 G a.length))) : gx_K G yX1_init mX1_init (d + 1) 1 40 [.ref (gx_N G + (a.length + 0))] (hL G (a ++ [.inr (1, [.null, .int 0, .int 0])])) Q := by
  refine gx_K.of' (lv := [(0, _)]) (by decide) rfl (by decide) (Nat.le_of_ble_eq_true rfl) rfl ?_
  refine J_aload_n (i := 0) (n := 1) dX1_init_0 rfl rfl rfl ?_
  refine J_objInit (n := 4) dX1_init_1 wm_X1_3 wo_1 wo_2 (Nat.le_of_ble_eq_true rfl) rfl ?_
  refine J_aload_n (i := 0) (n := 5) dX1_init_4 rfl rfl rfl ?_
  refine J_bipush (n := 7) dX1_init_5 kB_40 rfl ?_
  refine J_newaL (N := 40) (j := 1) (n := 9) dX1_init_7 rfl (by decide) rfl rfl ?_
  refine J_putL (kk := 0) (j := 0) (n := 12) wk_X1 dX1_init_9 wf_X1_9 (by decide) rfl (by decide) rfl rfl (Nat.le_of_ble_eq_true rfl) rfl rfl ?_
  refine J_aload_n (i := 0) (n := 13) dX1_init_12 rfl rfl rfl ?_
  refine J_iconst (n := 14) dX1_init_13 kI_m1 rfl ?_
  refine J_putL (kk := 1) (j := 0) (n := 17) wk_X1 dX1_init_14 wf_X1_15 (by decide) rfl (by decide) rfl rfl (Nat.le_of_ble_eq_true rfl) rfl rfl ?_
  refine J_vret dX1_init_17 rfl ?_
  exact hq

theorem J_newbL {G : gx_G} {M : gx_M} {d kc ks : Nat} {Q : Option Value → gx_Hp → Prop} {pc n : Nat} {lv : List (Nat × Value)} {rest : List Value} {a l l' : List va_E} {N j : Nat} (hd : decode M.2.1 pc = .ok (.newarray .byte, 2)) (hj : l.length = j) (hN : N < 1000) (hl : l ++ [.inl (G.2.1 1, N, .inl (fun _ => 0))] = l') (hn : pc + 2 = n) (k : gx_J G M d kc ks Q n lv (.ref (gx_N G + (a.length + j)) :: rest) (hL G (a ++ l'))) : gx_J G M d (kc + 1) (ks + N) Q pc lv (.int (nI N) :: rest) (hL G (a ++ l)) := by
  refine J_newa (t := 1) (cA := G.2.1 1) (N := N) (a0 := (N, .inl (fun _ => 0))) hd wa_byte rfl (fun C h => by cases h) rfl (nI_pos (by omega)) (nI_clamp (by omega)) (by show N * 1 ≤ 536870912; omega) hn ?_
  rw [hL_push, List.append_assoc, hl]
  have e : (hL G (a ++ l)).1 = gx_N G + (a.length + j) := by show gx_N G + (a ++ l).length = _; rw [List.length_append, hj]
  rw [e]; exact k
theorem J_newzL {G : gx_G} {M : gx_M} {d kc ks : Nat} {Q : Option Value → gx_Hp → Prop} {pc n : Nat} {lv : List (Nat × Value)} {rest : List Value} {a l l' : List va_E} {N j : Nat} (hd : decode M.2.1 pc = .ok (.newarray .boolean, 2)) (hj : l.length = j) (hN : N < 1000) (hl : l ++ [.inl (G.2.1 2, N, .inl (fun _ => 0))] = l') (hn : pc + 2 = n) (k : gx_J G M d kc ks Q n lv (.ref (gx_N G + (a.length + j)) :: rest) (hL G (a ++ l'))) : gx_J G M d (kc + 1) (ks + N) Q pc lv (.int (nI N) :: rest) (hL G (a ++ l)) := by
  refine J_newa (t := 2) (cA := G.2.1 2) (N := N) (a0 := (N, .inl (fun _ => 0))) hd wa_boolean rfl (fun C h => by cases h) rfl (nI_pos (by omega)) (nI_clamp (by omega)) (by show N * 1 ≤ 536870912; omega) hn ?_
  rw [hL_push, List.append_assoc, hl]
  have e : (hL G (a ++ l)).1 = gx_N G + (a.length + j) := by show gx_N G + (a ++ l).length = _; rw [List.length_append, hj]
  rw [e]; exact k
set_option maxHeartbeats 4000000 in
set_option maxRecDepth 100000 in
theorem i_X3 {G : gx_G} {Q : Option Value → gx_Hp → Prop} (d : Nat) (a : List va_E) (hq : Q none (hL G (a ++ T3 G a.length))) : gx_K G yX3_init mX3_init (d + 1) 1 160 [.ref (gx_N G + (a.length + 0))] (hL G (a ++ [.inr (3, [.null, .int 0])])) Q := by
  refine gx_K.of' (lv := [(0, _)]) (by decide) rfl (by decide) (Nat.le_of_ble_eq_true rfl) rfl ?_
  refine J_aload_n (i := 0) (n := 1) dX3_init_0 rfl rfl rfl ?_
  refine J_objInit (n := 4) dX3_init_1 wm_X3_3 wo_1 wo_2 (Nat.le_of_ble_eq_true rfl) rfl ?_
  refine J_aload_n (i := 0) (n := 5) dX3_init_4 rfl rfl rfl ?_
  refine J_sipush (n := 8) dX3_init_5 kS_160 rfl ?_
  refine J_newbL (N := 160) (j := 1) (n := 10) dX3_init_8 rfl (by decide) rfl rfl ?_
  refine J_putL (kk := 0) (j := 0) (n := 13) wk_X3 dX3_init_10 wf_X3_9 (by decide) rfl (by decide) rfl rfl (Nat.le_of_ble_eq_true rfl) rfl rfl ?_
  refine J_vret dX3_init_13 rfl ?_
  exact hq

theorem mk_X5 {G : gx_G} {M : gx_M} (d : Nat) {kc ks : Nat} {Q : Option Value → gx_Hp → Prop} {pc n : Nat} {lv : List (Nat × Value)} {rest : List Value} {a l : List va_E} {i1 i2 j : Nat} (hd1 : decode M.2.1 pc = .ok (.new i1, 3)) (hd2 : decode M.2.1 (pc + 3) = .ok (.dup, 1)) (hd3 : decode M.2.1 (pc + 4) = .ok (.invokespecial i2, 3)) (hw : Cond.classLink M.1 i1 RX5 ∈ gx_ws) (hnn : (M.1, i2, yX5_init) ∈ gx_nest) (hj : l.length = j) (hst : ((Value.ref 0 :: rest).map fun v => v.category).sum ≤ 8) (hn : pc + 7 = n) (k : gx_J G M (d + 1 + 1) kc ks Q n lv (.ref (gx_N G + (a.length + j)) :: rest) (hL G (a ++ (l ++ W5 G (a.length + j))))) : gx_J G M (d + 1 + 1) (kc + 6) (ks + 41) Q pc lv rest (hL G (a ++ l)) := by
  subst hn
  rw [show kc + 6 = 5 + kc + 1 by omega, show ks + 41 = 30 + ks + 11 by omega]
  refine J_newL (l' := l ++ [.inr (5, z11)]) (j := j) wk_X5 hd1 hw wN_X5 wI_X5 (by decide) hj rfl rfl ?_
  refine J_dup (n := pc + 4) hd2 rfl rfl ?_
  have h5 : gx_K G yX5_init mX5_init (d + 1) 5 30 [.ref (gx_N G + (a.length + j))] (hL G (a ++ (l ++ [.inr (5, z11)]))) (fun r h => r = none ∧ h = hL G (a ++ (l ++ W5 G (a.length + j)))) := by
    have h0 := i_X5 (G := G) (Q := fun r h => r = none ∧ h = hL G (a ++ (l ++ W5 G (a.length + j)))) d (a ++ l) ⟨rfl, by rw [List.length_append, hj, List.append_assoc]⟩
    rw [List.length_append, hj, List.append_assoc] at h0
    exact h0
  refine J_callIN (n := pc + 7) wS_X5_init h5 rfl hd3 hnn wM_X5_init rfl rfl rfl hst rfl (fun r h1 hq1 => ?_)
  obtain ⟨rfl, rfl⟩ := hq1
  exact k
theorem mk_X2 {G : gx_G} {M : gx_M} (d : Nat) {kc ks : Nat} {Q : Option Value → gx_Hp → Prop} {pc n : Nat} {lv : List (Nat × Value)} {rest : List Value} {a l : List va_E} {i1 i2 j : Nat} (hd1 : decode M.2.1 pc = .ok (.new i1, 3)) (hd2 : decode M.2.1 (pc + 3) = .ok (.dup, 1)) (hd3 : decode M.2.1 (pc + 4) = .ok (.invokespecial i2, 3)) (hw : Cond.classLink M.1 i1 RX2 ∈ gx_ws) (hnn : (M.1, i2, yX2_init) ∈ gx_nest) (hj : l.length = j) (hst : ((Value.ref 0 :: rest).map fun v => v.category).sum ≤ 8) (hn : pc + 7 = n) (k : gx_J G M (d + 1 + 1) kc ks Q n lv (.ref (gx_N G + (a.length + j)) :: rest) (hL G (a ++ (l ++ S2 G (a.length + j))))) : gx_J G M (d + 1 + 1) (kc + 4) (ks + 22) Q pc lv rest (hL G (a ++ l)) := by
  subst hn
  rw [show kc + 4 = 3 + kc + 1 by omega, show ks + 22 = 18 + ks + 4 by omega]
  refine J_newL (l' := l ++ [.inr (2, [.null, .null, .null, .int 0])]) (j := j) wk_X2 hd1 hw wN_X2 wI_X2 (by decide) hj rfl rfl ?_
  refine J_dup (n := pc + 4) hd2 rfl rfl ?_
  have h5 : gx_K G yX2_init mX2_init (d + 1) 3 18 [.ref (gx_N G + (a.length + j))] (hL G (a ++ (l ++ [.inr (2, [.null, .null, .null, .int 0])]))) (fun r h => r = none ∧ h = hL G (a ++ (l ++ S2 G (a.length + j)))) := by
    have h0 := i_X2 (G := G) (Q := fun r h => r = none ∧ h = hL G (a ++ (l ++ S2 G (a.length + j)))) d (a ++ l) ⟨rfl, by rw [List.length_append, hj, List.append_assoc]⟩
    rw [List.length_append, hj, List.append_assoc] at h0
    exact h0
  refine J_callIN (n := pc + 7) wS_X2_init h5 rfl hd3 hnn wM_X2_init rfl rfl rfl hst rfl (fun r h1 hq1 => ?_)
  obtain ⟨rfl, rfl⟩ := hq1
  exact k
theorem mk_X1 {G : gx_G} {M : gx_M} (d : Nat) {kc ks : Nat} {Q : Option Value → gx_Hp → Prop} {pc n : Nat} {lv : List (Nat × Value)} {rest : List Value} {a l : List va_E} {i1 i2 j : Nat} (hd1 : decode M.2.1 pc = .ok (.new i1, 3)) (hd2 : decode M.2.1 (pc + 3) = .ok (.dup, 1)) (hd3 : decode M.2.1 (pc + 4) = .ok (.invokespecial i2, 3)) (hw : Cond.classLink M.1 i1 RX1 ∈ gx_ws) (hnn : (M.1, i2, yX1_init) ∈ gx_nest) (hj : l.length = j) (hst : ((Value.ref 0 :: rest).map fun v => v.category).sum ≤ 8) (hn : pc + 7 = n) (k : gx_J G M (d + 1 + 1) kc ks Q n lv (.ref (gx_N G + (a.length + j)) :: rest) (hL G (a ++ (l ++ H1 G (a.length + j))))) : gx_J G M (d + 1 + 1) (kc + 2) (ks + 43) Q pc lv rest (hL G (a ++ l)) := by
  subst hn
  rw [show kc + 2 = 1 + kc + 1 by omega, show ks + 43 = 40 + ks + 3 by omega]
  refine J_newL (l' := l ++ [.inr (1, [.null, .int 0, .int 0])]) (j := j) wk_X1 hd1 hw wN_X1 wI_X1 (by decide) hj rfl rfl ?_
  refine J_dup (n := pc + 4) hd2 rfl rfl ?_
  have h5 : gx_K G yX1_init mX1_init (d + 1) 1 40 [.ref (gx_N G + (a.length + j))] (hL G (a ++ (l ++ [.inr (1, [.null, .int 0, .int 0])]))) (fun r h => r = none ∧ h = hL G (a ++ (l ++ H1 G (a.length + j)))) := by
    have h0 := i_X1 (G := G) (Q := fun r h => r = none ∧ h = hL G (a ++ (l ++ H1 G (a.length + j)))) d (a ++ l) ⟨rfl, by rw [List.length_append, hj, List.append_assoc]⟩
    rw [List.length_append, hj, List.append_assoc] at h0
    exact h0
  refine J_callIN (n := pc + 7) wS_X1_init h5 rfl hd3 hnn wM_X1_init rfl rfl rfl hst rfl (fun r h1 hq1 => ?_)
  obtain ⟨rfl, rfl⟩ := hq1
  exact k
theorem mk_X3 {G : gx_G} {M : gx_M} (d : Nat) {kc ks : Nat} {Q : Option Value → gx_Hp → Prop} {pc n : Nat} {lv : List (Nat × Value)} {rest : List Value} {a l : List va_E} {i1 i2 j : Nat} (hd1 : decode M.2.1 pc = .ok (.new i1, 3)) (hd2 : decode M.2.1 (pc + 3) = .ok (.dup, 1)) (hd3 : decode M.2.1 (pc + 4) = .ok (.invokespecial i2, 3)) (hw : Cond.classLink M.1 i1 RX3 ∈ gx_ws) (hnn : (M.1, i2, yX3_init) ∈ gx_nest) (hj : l.length = j) (hst : ((Value.ref 0 :: rest).map fun v => v.category).sum ≤ 8) (hn : pc + 7 = n) (k : gx_J G M (d + 1 + 1) kc ks Q n lv (.ref (gx_N G + (a.length + j)) :: rest) (hL G (a ++ (l ++ T3 G (a.length + j))))) : gx_J G M (d + 1 + 1) (kc + 2) (ks + 162) Q pc lv rest (hL G (a ++ l)) := by
  subst hn
  rw [show kc + 2 = 1 + kc + 1 by omega, show ks + 162 = 160 + ks + 2 by omega]
  refine J_newL (l' := l ++ [.inr (3, [.null, .int 0])]) (j := j) wk_X3 hd1 hw wN_X3 wI_X3 (by decide) hj rfl rfl ?_
  refine J_dup (n := pc + 4) hd2 rfl rfl ?_
  have h5 : gx_K G yX3_init mX3_init (d + 1) 1 160 [.ref (gx_N G + (a.length + j))] (hL G (a ++ (l ++ [.inr (3, [.null, .int 0])]))) (fun r h => r = none ∧ h = hL G (a ++ (l ++ T3 G (a.length + j)))) := by
    have h0 := i_X3 (G := G) (Q := fun r h => r = none ∧ h = hL G (a ++ (l ++ T3 G (a.length + j)))) d (a ++ l) ⟨rfl, by rw [List.length_append, hj, List.append_assoc]⟩
    rw [List.length_append, hj, List.append_assoc] at h0
    exact h0
  refine J_callIN (n := pc + 7) wS_X3_init h5 rfl hd3 hnn wM_X3_init rfl rfl rfl hst rfl (fun r h1 hq1 => ?_)
  obtain ⟨rfl, rfl⟩ := hq1
  exact k
set_option maxHeartbeats 4000000 in
set_option maxRecDepth 100000 in
theorem i_X0 {G : gx_G} {Q : Option Value → gx_Hp → Prop} (d : Nat) (a : List va_E) (hq : Q none (hL G (a ++ I0 G a.length))) : gx_K G yX0_init mX0_init (d + 1 + 1) 10 63 [.ref (gx_N G + (a.length + 0))] (hL G (a ++ [.inr (0, [.null, .null, .int 0])])) Q := by
  refine gx_K.of' (lv := [(0, _)]) (by decide) rfl (by decide) (Nat.le_of_ble_eq_true rfl) rfl ?_
  refine J_aload_n (i := 0) (n := 1) dX0_init_0 rfl rfl rfl ?_
  refine J_objInit (n := 4) dX0_init_1 wm_X0_1 wo_1 wo_2 (Nat.le_of_ble_eq_true rfl) rfl ?_
  refine J_aload_n (i := 0) (n := 5) dX0_init_4 rfl rfl rfl ?_
  refine mk_X5 d (j := 1) (n := 12) dX0_init_5 dX0_init_8 dX0_init_9 wc_X0_7 wn_X0_9 rfl (Nat.le_of_ble_eq_true rfl) rfl ?_
  refine J_putL (kk := 0) (j := 0) (n := 15) wk_X0 dX0_init_12 wf_X0_10 (by decide) rfl (by decide) rfl rfl (Nat.le_of_ble_eq_true rfl) rfl rfl ?_
  refine J_aload_n (i := 0) (n := 16) dX0_init_15 rfl rfl rfl ?_
  refine mk_X2 d (j := 7) (n := 23) dX0_init_16 dX0_init_19 dX0_init_20 wc_X0_16 wn_X0_18 rfl (Nat.le_of_ble_eq_true rfl) rfl ?_
  refine J_putL (kk := 1) (j := 0) (n := 26) wk_X0 dX0_init_23 wf_X0_19 (by decide) rfl (by decide) rfl rfl (Nat.le_of_ble_eq_true rfl) rfl rfl ?_
  refine J_vret dX0_init_26 rfl ?_
  exact hq

theorem mk_X0 {G : gx_G} {M : gx_M} (d : Nat) {kc ks : Nat} {Q : Option Value → gx_Hp → Prop} {pc n : Nat} {lv : List (Nat × Value)} {rest : List Value} {a l : List va_E} {i1 i2 j : Nat} (hd1 : decode M.2.1 pc = .ok (.new i1, 3)) (hd2 : decode M.2.1 (pc + 3) = .ok (.dup, 1)) (hd3 : decode M.2.1 (pc + 4) = .ok (.invokespecial i2, 3)) (hw : Cond.classLink M.1 i1 RX0 ∈ gx_ws) (hnn : (M.1, i2, yX0_init) ∈ gx_nest) (hj : l.length = j) (hst : ((Value.ref 0 :: rest).map fun v => v.category).sum ≤ 8) (hn : pc + 7 = n) (k : gx_J G M (d + 1 + 1 + 1) kc ks Q n lv (.ref (gx_N G + (a.length + j)) :: rest) (hL G (a ++ (l ++ I0 G (a.length + j))))) : gx_J G M (d + 1 + 1 + 1) (kc + 11) (ks + 66) Q pc lv rest (hL G (a ++ l)) := by
  subst hn
  rw [show kc + 11 = 10 + kc + 1 by omega, show ks + 66 = 63 + ks + 3 by omega]
  refine J_newL (l' := l ++ [.inr (0, [.null, .null, .int 0])]) (j := j) wk_X0 hd1 hw wN_X0 wI_X0 (by decide) hj rfl rfl ?_
  refine J_dup (n := pc + 4) hd2 rfl rfl ?_
  have h5 : gx_K G yX0_init mX0_init (d + 1 + 1) 10 63 [.ref (gx_N G + (a.length + j))] (hL G (a ++ (l ++ [.inr (0, [.null, .null, .int 0])]))) (fun r h => r = none ∧ h = hL G (a ++ (l ++ I0 G (a.length + j)))) := by
    have h0 := i_X0 (G := G) (Q := fun r h => r = none ∧ h = hL G (a ++ (l ++ I0 G (a.length + j)))) d (a ++ l) ⟨rfl, by rw [List.length_append, hj, List.append_assoc]⟩
    rw [List.length_append, hj, List.append_assoc] at h0
    exact h0
  refine J_callIN (n := pc + 7) wS_X0_init h5 rfl hd3 hnn wM_X0_init rfl rfl rfl hst rfl (fun r h1 hq1 => ?_)
  obtain ⟨rfl, rfl⟩ := hq1
  exact k
def z10 : List Value := [.null, .null, .int 0, .int 0, .int 0, .int 0, .int 0, .int 0, .int 0, .int 0]
def R4 (G : gx_G) (n : Nat) : List va_E := [.inr (4, [.ref (gx_N G + (n + 1)), .ref (gx_N G + (n + 3)), .int 0, .int 0, .int 0, .int 0, .int 0, .int 0, .int 0, .int 0])] ++ T3 G (n + 1) ++ W5 G (n + 3)
set_option maxHeartbeats 4000000 in
set_option maxRecDepth 100000 in
theorem i_X4 {G : gx_G} {Q : Option Value → gx_Hp → Prop} (d : Nat) (a : List va_E) (hq : Q none (hL G (a ++ R4 G a.length))) : gx_K G yX4_init mX4_init (d + 1 + 1) 8 203 [.ref (gx_N G + (a.length + 0))] (hL G (a ++ [.inr (4, z10)])) Q := by
  refine gx_K.of' (lv := [(0, _)]) (by decide) rfl (by decide) (Nat.le_of_ble_eq_true rfl) rfl ?_
  refine J_aload_n (i := 0) (n := 1) dX4_init_0 rfl rfl rfl ?_
  refine J_objInit (n := 4) dX4_init_1 wm_X4_3 wo_1 wo_2 (Nat.le_of_ble_eq_true rfl) rfl ?_
  refine J_aload_n (i := 0) (n := 5) dX4_init_4 rfl rfl rfl ?_
  refine mk_X3 d (j := 1) (n := 12) dX4_init_5 dX4_init_8 dX4_init_9 wc_X4_9 wn_X4_11 rfl (Nat.le_of_ble_eq_true rfl) rfl ?_
  refine J_putL (kk := 0) (j := 0) (n := 15) wk_X4 dX4_init_12 wf_X4_12 (by decide) rfl (by decide) rfl rfl (Nat.le_of_ble_eq_true rfl) rfl rfl ?_
  refine J_aload_n (i := 0) (n := 16) dX4_init_15 rfl rfl rfl ?_
  refine mk_X5 d (j := 3) (n := 23) dX4_init_16 dX4_init_19 dX4_init_20 wc_X4_18 wn_X4_20 rfl (Nat.le_of_ble_eq_true rfl) rfl ?_
  refine J_putL (kk := 1) (j := 0) (n := 26) wk_X4 dX4_init_23 wf_X4_21 (by decide) rfl (by decide) rfl rfl (Nat.le_of_ble_eq_true rfl) rfl rfl ?_
  refine J_vret dX4_init_26 rfl ?_
  exact hq

theorem mk_X4 {G : gx_G} {M : gx_M} (d : Nat) {kc ks : Nat} {Q : Option Value → gx_Hp → Prop} {pc n : Nat} {lv : List (Nat × Value)} {rest : List Value} {a l : List va_E} {i1 i2 j : Nat} (hd1 : decode M.2.1 pc = .ok (.new i1, 3)) (hd2 : decode M.2.1 (pc + 3) = .ok (.dup, 1)) (hd3 : decode M.2.1 (pc + 4) = .ok (.invokespecial i2, 3)) (hw : Cond.classLink M.1 i1 RX4 ∈ gx_ws) (hnn : (M.1, i2, yX4_init) ∈ gx_nest) (hj : l.length = j) (hst : ((Value.ref 0 :: rest).map fun v => v.category).sum ≤ 8) (hn : pc + 7 = n) (k : gx_J G M (d + 1 + 1 + 1) kc ks Q n lv (.ref (gx_N G + (a.length + j)) :: rest) (hL G (a ++ (l ++ R4 G (a.length + j))))) : gx_J G M (d + 1 + 1 + 1) (kc + 9) (ks + 213) Q pc lv rest (hL G (a ++ l)) := by
  subst hn
  rw [show kc + 9 = 8 + kc + 1 by omega, show ks + 213 = 203 + ks + 10 by omega]
  refine J_newL (l' := l ++ [.inr (4, z10)]) (j := j) wk_X4 hd1 hw wN_X4 wI_X4 (by decide) hj rfl rfl ?_
  refine J_dup (n := pc + 4) hd2 rfl rfl ?_
  have h5 : gx_K G yX4_init mX4_init (d + 1 + 1) 8 203 [.ref (gx_N G + (a.length + j))] (hL G (a ++ (l ++ [.inr (4, z10)]))) (fun r h => r = none ∧ h = hL G (a ++ (l ++ R4 G (a.length + j)))) := by
    have h0 := i_X4 (G := G) (Q := fun r h => r = none ∧ h = hL G (a ++ (l ++ R4 G (a.length + j)))) d (a ++ l) ⟨rfl, by rw [List.length_append, hj, List.append_assoc]⟩
    rw [List.length_append, hj, List.append_assoc] at h0
    exact h0
  refine J_callIN (n := pc + 7) wS_X4_init h5 rfl hd3 hnn wM_X4_init rfl rfl rfl hst rfl (fun r h1 hq1 => ?_)
  obtain ⟨rfl, rfl⟩ := hq1
  exact k
