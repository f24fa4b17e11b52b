/-! ===== the model's constructor; from a row of cells to the typed state ===== -/
theorem gx_J.heap {G : gx_G} {M : gx_M} {d kc ks : Nat} {Q : Option Value → gx_Hp → Prop} {pc n : Nat} {lv : List (Nat × Value)} {rest : List Value} {st : List Value} {h h' : gx_Hp} (hh : ∀ H, gx_R G h H → gx_R G h' H) (k : gx_J G M d kc ks Q pc lv st h') : gx_J G M d kc ks Q pc lv st h :=
  fun p l e R s m args below meth c H locs cells slots ls A hR hL hl hc hs => k p l e R s m args below meth c H locs cells slots ls A (hh H hR) hL hl hc hs
theorem hp_list (G : gx_G) (σ : gs_S) : hp G σ = hL G (gs_lay.map (gs_cell G σ)) := by
  rw [hp_def]
  refine Prod.ext ?_ (funext fun a => ?_)
  · show gx_N G + 125 = gx_N G + (gs_lay.map (gs_cell G σ)).length
    rw [List.length_map, gs_layLen]
  · show (if a < gx_N G then none else (gs_lay[a - gx_N G]?).map (gs_cell G σ)) = if a < gx_N G then none else (gs_lay.map (gs_cell G σ))[a - gx_N G]?
    rw [List.getElem?_map]
theorem gx_R.list {G : gx_G} {l l' : List va_E} {H : Heap} (hlen : l'.length = l.length) (hh : ∀ (p : Nat) (e : va_E), l'[p]? = some e → ∃ e0, l[p]? = some e0 ∧ ∀ a, va_at G.1 gx_cl (a, e0) H → va_at G.1 gx_cl (a, e) H) (hR : gx_R G (hL G l) H) : gx_R G (hL G l') H := by
  obtain ⟨r1, r2, r3, r4⟩ := hR
  refine ⟨r1.trans (by show gx_N G + l.length = gx_N G + l'.length; rw [hlen]), by show gx_N G ≤ gx_N G + l'.length; omega, r3, fun a c hc => ?_⟩
  have hc : (if a < gx_N G then none else l'[a - gx_N G]?) = some c := hc
  by_cases ha : a < gx_N G
  · rw [if_pos ha] at hc; cases hc
  · rw [if_neg ha] at hc
    obtain ⟨e0, h0, h1⟩ := hh _ _ hc
    exact ⟨by omega, h1 a (r4 a e0 (by show (if a < gx_N G then none else l[a - gx_N G]?) = some e0; rw [if_neg ha]; exact h0)).2⟩
theorem ao_ext {G : gx_G} {t N a : Nat} {f g : Nat → Option Nat} {H : Heap} (h : ∀ j, j < N → f j = g j) (hv : va_at G.1 gx_cl (a, ao G t N f) H) : va_at G.1 gx_cl (a, ao G t N g) H := by
  have e : vp_cell (G.2.1 t) (N, .inr (.inr (.inr (.inr f)))) = vp_cell (G.2.1 t) (N, .inr (.inr (.inr (.inr g)))) := by
    show arrV (G.2.1 t) N (fun j => va_rf (f j)) = arrV (G.2.1 t) N (fun j => va_rf (g j))
    unfold arrV
    congr 1
    refine Array.ext (by simp) (fun i h1 h2 => ?_)
    have hi : i < N := by simpa using h1
    simp [h i hi]
  show H[a]? = some (vp_cell (G.2.1 t) (N, .inr (.inr (.inr (.inr g)))))
  rw [← e]; exact hv
theorem P6_to {G : gx_G} {H : Heap} {br im sh br' im' sh' : Nat → Option Nat} {X : List va_E} (h1 : ∀ j, j < 9 → br j = br' j) (h2 : ∀ j, j < 2 → im j = im' j) (h3 : ∀ j, j < 4 → sh j = sh' j) (hR : gx_R G (hL G (P6 G br im sh ++ X)) H) : gx_R G (hL G (P6 G br' im' sh' ++ X)) H := by
  have e : P6 G br' im' sh' ++ X = (((P6 G br im sh ++ X).set 17 (ao G 3 9 br')).set 27 (ao G 4 2 im')).set 28 (ao G 5 4 sh') := by rw [P6_s17, P6_s27, P6_s28]
  refine gx_R.list (by rw [e, List.length_set, List.length_set, List.length_set]) (fun p x hx => ?_) hR
  by_cases p1 : p = 17
  · subst p1; have hx : some (ao G 3 9 br') = some x := hx; cases hx; exact ⟨ao G 3 9 br, rfl, fun a => ao_ext h1⟩
  · by_cases p2 : p = 27
    · subst p2; have hx : some (ao G 4 2 im') = some x := hx; cases hx; exact ⟨ao G 4 2 im, rfl, fun a => ao_ext h2⟩
    · by_cases p3 : p = 28
      · subst p3; have hx : some (ao G 5 4 sh') = some x := hx; cases hx; exact ⟨ao G 5 4 sh, rfl, fun a => ao_ext h3⟩
      · rw [e, List.getElem?_set_ne (fun q => p3 q.symm), List.getElem?_set_ne (fun q => p2 q.symm), List.getElem?_set_ne (fun q => p1 q.symm)] at hx
        exact ⟨x, hx, fun _ q => q⟩
theorem ps_6_0_0 : gs_pos 6 0 0 = 0 := by decide +kernel
theorem ps_5_0_0 : gs_pos 5 0 0 = 1 := by decide +kernel
theorem ps_5_0_1 : gs_pos 5 0 1 = 2 := by decide +kernel
theorem ps_5_0_2 : gs_pos 5 0 2 = 3 := by decide +kernel
theorem ps_5_0_3 : gs_pos 5 0 3 = 4 := by decide +kernel
theorem ps_5_0_4 : gs_pos 5 0 4 = 5 := by decide +kernel
theorem ps_5_0_5 : gs_pos 5 0 5 = 6 := by decide +kernel
theorem ps_2_0_0 : gs_pos 2 0 0 = 7 := by decide +kernel
theorem ps_2_0_1 : gs_pos 2 0 1 = 8 := by decide +kernel
theorem ps_2_0_2 : gs_pos 2 0 2 = 9 := by decide +kernel
theorem ps_2_0_3 : gs_pos 2 0 3 = 10 := by decide +kernel
theorem ps_5_1_0 : gs_pos 5 1 0 = 11 := by decide +kernel
theorem ps_5_1_1 : gs_pos 5 1 1 = 12 := by decide +kernel
theorem ps_5_1_2 : gs_pos 5 1 2 = 13 := by decide +kernel
theorem ps_5_1_3 : gs_pos 5 1 3 = 14 := by decide +kernel
theorem ps_5_1_4 : gs_pos 5 1 4 = 15 := by decide +kernel
theorem ps_5_1_5 : gs_pos 5 1 5 = 16 := by decide +kernel
theorem ps_6_0_4 : gs_pos 6 0 4 = 17 := by decide +kernel
theorem ps_4_0_0 : gs_pos 4 0 0 = 18 := by decide +kernel
theorem ps_3_0_0 : gs_pos 3 0 0 = 19 := by decide +kernel
theorem ps_3_0_1 : gs_pos 3 0 1 = 20 := by decide +kernel
theorem ps_5_13_0 : gs_pos 5 13 0 = 21 := by decide +kernel
theorem ps_5_13_1 : gs_pos 5 13 1 = 22 := by decide +kernel
theorem ps_5_13_2 : gs_pos 5 13 2 = 23 := by decide +kernel
theorem ps_5_13_3 : gs_pos 5 13 3 = 24 := by decide +kernel
theorem ps_5_13_4 : gs_pos 5 13 4 = 25 := by decide +kernel
theorem ps_5_13_5 : gs_pos 5 13 5 = 26 := by decide +kernel
theorem ps_6_0_6 : gs_pos 6 0 6 = 27 := by decide +kernel
theorem ps_6_0_7 : gs_pos 6 0 7 = 28 := by decide +kernel
theorem ps_5_2_0 : gs_pos 5 2 0 = 29 := by decide +kernel
theorem ps_5_2_1 : gs_pos 5 2 1 = 30 := by decide +kernel
theorem ps_5_2_2 : gs_pos 5 2 2 = 31 := by decide +kernel
theorem ps_5_2_3 : gs_pos 5 2 3 = 32 := by decide +kernel
theorem ps_5_2_4 : gs_pos 5 2 4 = 33 := by decide +kernel
theorem ps_5_2_5 : gs_pos 5 2 5 = 34 := by decide +kernel
theorem ps_5_3_0 : gs_pos 5 3 0 = 35 := by decide +kernel
theorem ps_5_3_1 : gs_pos 5 3 1 = 36 := by decide +kernel
theorem ps_5_3_2 : gs_pos 5 3 2 = 37 := by decide +kernel
theorem ps_5_3_3 : gs_pos 5 3 3 = 38 := by decide +kernel
theorem ps_5_3_4 : gs_pos 5 3 4 = 39 := by decide +kernel
theorem ps_5_3_5 : gs_pos 5 3 5 = 40 := by decide +kernel
theorem ps_5_4_0 : gs_pos 5 4 0 = 41 := by decide +kernel
theorem ps_5_4_1 : gs_pos 5 4 1 = 42 := by decide +kernel
theorem ps_5_4_2 : gs_pos 5 4 2 = 43 := by decide +kernel
theorem ps_5_4_3 : gs_pos 5 4 3 = 44 := by decide +kernel
theorem ps_5_4_4 : gs_pos 5 4 4 = 45 := by decide +kernel
theorem ps_5_4_5 : gs_pos 5 4 5 = 46 := by decide +kernel
theorem ps_5_5_0 : gs_pos 5 5 0 = 47 := by decide +kernel
theorem ps_5_5_1 : gs_pos 5 5 1 = 48 := by decide +kernel
theorem ps_5_5_2 : gs_pos 5 5 2 = 49 := by decide +kernel
theorem ps_5_5_3 : gs_pos 5 5 3 = 50 := by decide +kernel
theorem ps_5_5_4 : gs_pos 5 5 4 = 51 := by decide +kernel
theorem ps_5_5_5 : gs_pos 5 5 5 = 52 := by decide +kernel
theorem ps_5_6_0 : gs_pos 5 6 0 = 53 := by decide +kernel
theorem ps_5_6_1 : gs_pos 5 6 1 = 54 := by decide +kernel
theorem ps_5_6_2 : gs_pos 5 6 2 = 55 := by decide +kernel
theorem ps_5_6_3 : gs_pos 5 6 3 = 56 := by decide +kernel
theorem ps_5_6_4 : gs_pos 5 6 4 = 57 := by decide +kernel
theorem ps_5_6_5 : gs_pos 5 6 5 = 58 := by decide +kernel
theorem ps_5_7_0 : gs_pos 5 7 0 = 59 := by decide +kernel
theorem ps_5_7_1 : gs_pos 5 7 1 = 60 := by decide +kernel
theorem ps_5_7_2 : gs_pos 5 7 2 = 61 := by decide +kernel
theorem ps_5_7_3 : gs_pos 5 7 3 = 62 := by decide +kernel
theorem ps_5_7_4 : gs_pos 5 7 4 = 63 := by decide +kernel
theorem ps_5_7_5 : gs_pos 5 7 5 = 64 := by decide +kernel
theorem ps_5_8_0 : gs_pos 5 8 0 = 65 := by decide +kernel
theorem ps_5_8_1 : gs_pos 5 8 1 = 66 := by decide +kernel
theorem ps_5_8_2 : gs_pos 5 8 2 = 67 := by decide +kernel
theorem ps_5_8_3 : gs_pos 5 8 3 = 68 := by decide +kernel
theorem ps_5_8_4 : gs_pos 5 8 4 = 69 := by decide +kernel
theorem ps_5_8_5 : gs_pos 5 8 5 = 70 := by decide +kernel
theorem ps_5_9_0 : gs_pos 5 9 0 = 71 := by decide +kernel
theorem ps_5_9_1 : gs_pos 5 9 1 = 72 := by decide +kernel
theorem ps_5_9_2 : gs_pos 5 9 2 = 73 := by decide +kernel
theorem ps_5_9_3 : gs_pos 5 9 3 = 74 := by decide +kernel
theorem ps_5_9_4 : gs_pos 5 9 4 = 75 := by decide +kernel
theorem ps_5_9_5 : gs_pos 5 9 5 = 76 := by decide +kernel
theorem ps_5_10_0 : gs_pos 5 10 0 = 77 := by decide +kernel
theorem ps_5_10_1 : gs_pos 5 10 1 = 78 := by decide +kernel
theorem ps_5_10_2 : gs_pos 5 10 2 = 79 := by decide +kernel
theorem ps_5_10_3 : gs_pos 5 10 3 = 80 := by decide +kernel
theorem ps_5_10_4 : gs_pos 5 10 4 = 81 := by decide +kernel
theorem ps_5_10_5 : gs_pos 5 10 5 = 82 := by decide +kernel
theorem ps_0_0_0 : gs_pos 0 0 0 = 83 := by decide +kernel
theorem ps_5_11_0 : gs_pos 5 11 0 = 84 := by decide +kernel
theorem ps_5_11_1 : gs_pos 5 11 1 = 85 := by decide +kernel
theorem ps_5_11_2 : gs_pos 5 11 2 = 86 := by decide +kernel
theorem ps_5_11_3 : gs_pos 5 11 3 = 87 := by decide +kernel
theorem ps_5_11_4 : gs_pos 5 11 4 = 88 := by decide +kernel
theorem ps_5_11_5 : gs_pos 5 11 5 = 89 := by decide +kernel
theorem ps_2_1_0 : gs_pos 2 1 0 = 90 := by decide +kernel
theorem ps_2_1_1 : gs_pos 2 1 1 = 91 := by decide +kernel
theorem ps_2_1_2 : gs_pos 2 1 2 = 92 := by decide +kernel
theorem ps_2_1_3 : gs_pos 2 1 3 = 93 := by decide +kernel
theorem ps_0_1_0 : gs_pos 0 1 0 = 94 := by decide +kernel
theorem ps_5_12_0 : gs_pos 5 12 0 = 95 := by decide +kernel
theorem ps_5_12_1 : gs_pos 5 12 1 = 96 := by decide +kernel
theorem ps_5_12_2 : gs_pos 5 12 2 = 97 := by decide +kernel
theorem ps_5_12_3 : gs_pos 5 12 3 = 98 := by decide +kernel
theorem ps_5_12_4 : gs_pos 5 12 4 = 99 := by decide +kernel
theorem ps_5_12_5 : gs_pos 5 12 5 = 100 := by decide +kernel
theorem ps_2_2_0 : gs_pos 2 2 0 = 101 := by decide +kernel
theorem ps_2_2_1 : gs_pos 2 2 1 = 102 := by decide +kernel
theorem ps_2_2_2 : gs_pos 2 2 2 = 103 := by decide +kernel
theorem ps_2_2_3 : gs_pos 2 2 3 = 104 := by decide +kernel
theorem ps_1_0_0 : gs_pos 1 0 0 = 105 := by decide +kernel
theorem ps_1_0_1 : gs_pos 1 0 1 = 106 := by decide +kernel
theorem ps_1_1_0 : gs_pos 1 1 0 = 107 := by decide +kernel
theorem ps_1_1_1 : gs_pos 1 1 1 = 108 := by decide +kernel
theorem ps_1_2_0 : gs_pos 1 2 0 = 109 := by decide +kernel
theorem ps_1_2_1 : gs_pos 1 2 1 = 110 := by decide +kernel
theorem ps_1_3_0 : gs_pos 1 3 0 = 111 := by decide +kernel
theorem ps_1_3_1 : gs_pos 1 3 1 = 112 := by decide +kernel
theorem ps_7_0_0 : gs_pos 7 0 0 = 113 := by decide +kernel
theorem ps_7_0_1 : gs_pos 7 0 1 = 114 := by decide +kernel
theorem ps_7_0_2 : gs_pos 7 0 2 = 115 := by decide +kernel
theorem ps_7_0_3 : gs_pos 7 0 3 = 116 := by decide +kernel
theorem ps_7_0_5 : gs_pos 7 0 5 = 117 := by decide +kernel
theorem ps_7_0_11 : gs_pos 7 0 11 = 118 := by decide +kernel
theorem ps_7_0_24 : gs_pos 7 0 24 = 119 := by decide +kernel
theorem ps_7_0_25 : gs_pos 7 0 25 = 120 := by decide +kernel
theorem ps_7_0_26 : gs_pos 7 0 26 = 121 := by decide +kernel
theorem ps_7_0_27 : gs_pos 7 0 27 = 122 := by decide +kernel
theorem ps_7_0_28 : gs_pos 7 0 28 = 123 := by decide +kernel
theorem ps_7_0_30 : gs_pos 7 0 30 = 124 := by decide +kernel
def z7 : List Value := [.null, .null, .null, .int 0, .null, .int 0, .int 0, .int 0, .int 0, .int 0, .null, .int 0, .int 0, .int 0, .int 0, .int 0, .int 0, .int 0, .int 0, .int 0, .long 0, .long 0, .long 0, .null, .null, .null, .null, .null, .int 0, .null]
def M7 (G : gx_G) (n : Nat) : List va_E := [.inr (7, [.ref (gx_N G + (n + 1)), .ref (gx_N G + (n + 2)), .ref (gx_N G + (n + 3)), .int 0, .ref (gx_N G + (n + 4)), .int 0, .int 0, .int 0, .int 0, .int 0, .ref (gx_N G + (n + 5)), .int 0, .int 0, .int 0, .int 0, .int 0, .int 0, .int 0, .int 0, .int 0, .long 0, .long 0, .long 0, .ref (gx_N G + (n + 6)), .ref (gx_N G + (n + 7)), .ref (gx_N G + (n + 8)), .ref (gx_N G + (n + 9)), .ref (gx_N G + (n + 10)), .int 0, .ref (gx_N G + (n + 11))]), ai G 171, ai G 57, .inl (G.2.1 2, 2, .inl (fun _ => 0)), ai G 57, ai G 160, ai G 84, ai G 84, ai G 4, ai G 4, ai G 160, ai G 57]
set_option maxHeartbeats 4000000 in
set_option maxRecDepth 100000 in
theorem i7_a {G : gx_G} {Q : Option Value → gx_Hp → Prop} (d : Nat) (a : List va_E) (k : gx_J G mX7_init (d + 1) 0 0 Q 92 [(0, .ref (gx_N G + (a.length + 0)))] [] (hL G (a ++ M7 G a.length))) : gx_K G yX7_init mX7_init (d + 1) 11 840 [.ref (gx_N G + (a.length + 0))] (hL G (a ++ [.inr (7, z7)])) Q := by
  refine gx_K.of' (lv := [(0, _)]) (by decide) rfl (by decide) (Nat.le_of_ble_eq_true rfl) rfl ?_
  refine J_aload_n (i := 0) (n := 1) dX7_init_0 rfl rfl rfl ?_
  refine J_objInit (n := 4) dX7_init_1 wm_X7_1 wo_1 wo_2 (Nat.le_of_ble_eq_true rfl) rfl ?_
  refine J_aload_n (i := 0) (n := 5) dX7_init_4 rfl rfl rfl ?_
  refine J_sipush (n := 8) dX7_init_5 kS_171 rfl ?_
  refine J_newaL (l' := [.inr (7, [.null, .null, .null, .int 0, .null, .int 0, .int 0, .int 0, .int 0, .int 0, .null, .int 0, .int 0, .int 0, .int 0, .int 0, .int 0, .int 0, .int 0, .int 0, .long 0, .long 0, .long 0, .null, .null, .null, .null, .null, .int 0, .null]), ai G 171]) (N := 171) (j := 1) (n := 10) dX7_init_8 rfl (by decide) rfl rfl ?_
  refine J_putL (l' := [.inr (7, [.ref (gx_N G + (a.length + 1)), .null, .null, .int 0, .null, .int 0, .int 0, .int 0, .int 0, .int 0, .null, .int 0, .int 0, .int 0, .int 0, .int 0, .int 0, .int 0, .int 0, .int 0, .long 0, .long 0, .long 0, .null, .null, .null, .null, .null, .int 0, .null]), ai G 171]) (fs := [.null, .null, .null, .int 0, .null, .int 0, .int 0, .int 0, .int 0, .int 0, .null, .int 0, .int 0, .int 0, .int 0, .int 0, .int 0, .int 0, .int 0, .int 0, .long 0, .long 0, .long 0, .null, .null, .null, .null, .null, .int 0, .null]) (kk := 0) (j := 0) (n := 13) wk_X7 dX7_init_10 wf_X7_7 (by decide) rfl (by decide) rfl rfl (Nat.le_of_ble_eq_true rfl) rfl rfl ?_
  refine J_aload_n (i := 0) (n := 14) dX7_init_13 rfl rfl rfl ?_
  refine J_bipush (n := 16) dX7_init_14 kB_57 rfl ?_
  refine J_newaL (l' := [.inr (7, [.ref (gx_N G + (a.length + 1)), .null, .null, .int 0, .null, .int 0, .int 0, .int 0, .int 0, .int 0, .null, .int 0, .int 0, .int 0, .int 0, .int 0, .int 0, .int 0, .int 0, .int 0, .long 0, .long 0, .long 0, .null, .null, .null, .null, .null, .int 0, .null]), ai G 171, ai G 57]) (N := 57) (j := 2) (n := 18) dX7_init_16 rfl (by decide) rfl rfl ?_
  refine J_putL (l' := [.inr (7, [.ref (gx_N G + (a.length + 1)), .ref (gx_N G + (a.length + 2)), .null, .int 0, .null, .int 0, .int 0, .int 0, .int 0, .int 0, .null, .int 0, .int 0, .int 0, .int 0, .int 0, .int 0, .int 0, .int 0, .int 0, .long 0, .long 0, .long 0, .null, .null, .null, .null, .null, .int 0, .null]), ai G 171, ai G 57]) (fs := [.ref (gx_N G + (a.length + 1)), .null, .null, .int 0, .null, .int 0, .int 0, .int 0, .int 0, .int 0, .null, .int 0, .int 0, .int 0, .int 0, .int 0, .int 0, .int 0, .int 0, .int 0, .long 0, .long 0, .long 0, .null, .null, .null, .null, .null, .int 0, .null]) (kk := 1) (j := 0) (n := 21) wk_X7 dX7_init_18 wf_X7_13 (by decide) rfl (by decide) rfl rfl (Nat.le_of_ble_eq_true rfl) rfl rfl ?_
  refine J_aload_n (i := 0) (n := 22) dX7_init_21 rfl rfl rfl ?_
  refine J_iconst (n := 23) dX7_init_22 kI_2 rfl ?_
  refine J_newzL (l' := [.inr (7, [.ref (gx_N G + (a.length + 1)), .ref (gx_N G + (a.length + 2)), .null, .int 0, .null, .int 0, .int 0, .int 0, .int 0, .int 0, .null, .int 0, .int 0, .int 0, .int 0, .int 0, .int 0, .int 0, .int 0, .int 0, .long 0, .long 0, .long 0, .null, .null, .null, .null, .null, .int 0, .null]), ai G 171, ai G 57, .inl (G.2.1 2, 2, .inl (fun _ => 0))]) (N := 2) (j := 3) (n := 25) dX7_init_23 rfl (by decide) rfl rfl ?_
  refine J_putL (l' := [.inr (7, [.ref (gx_N G + (a.length + 1)), .ref (gx_N G + (a.length + 2)), .ref (gx_N G + (a.length + 3)), .int 0, .null, .int 0, .int 0, .int 0, .int 0, .int 0, .null, .int 0, .int 0, .int 0, .int 0, .int 0, .int 0, .int 0, .int 0, .int 0, .long 0, .long 0, .long 0, .null, .null, .null, .null, .null, .int 0, .null]), ai G 171, ai G 57, .inl (G.2.1 2, 2, .inl (fun _ => 0))]) (fs := [.ref (gx_N G + (a.length + 1)), .ref (gx_N G + (a.length + 2)), .null, .int 0, .null, .int 0, .int 0, .int 0, .int 0, .int 0, .null, .int 0, .int 0, .int 0, .int 0, .int 0, .int 0, .int 0, .int 0, .int 0, .long 0, .long 0, .long 0, .null, .null, .null, .null, .null, .int 0, .null]) (kk := 2) (j := 0) (n := 28) wk_X7 dX7_init_25 wf_X7_16 (by decide) rfl (by decide) rfl rfl (Nat.le_of_ble_eq_true rfl) rfl rfl ?_
  refine J_aload_n (i := 0) (n := 29) dX7_init_28 rfl rfl rfl ?_
  refine J_bipush (n := 31) dX7_init_29 kB_57 rfl ?_
  refine J_newaL (l' := [.inr (7, [.ref (gx_N G + (a.length + 1)), .ref (gx_N G + (a.length + 2)), .ref (gx_N G + (a.length + 3)), .int 0, .null, .int 0, .int 0, .int 0, .int 0, .int 0, .null, .int 0, .int 0, .int 0, .int 0, .int 0, .int 0, .int 0, .int 0, .int 0, .long 0, .long 0, .long 0, .null, .null, .null, .null, .null, .int 0, .null]), ai G 171, ai G 57, .inl (G.2.1 2, 2, .inl (fun _ => 0)), ai G 57]) (N := 57) (j := 4) (n := 33) dX7_init_31 rfl (by decide) rfl rfl ?_
  refine J_putL (l' := [.inr (7, [.ref (gx_N G + (a.length + 1)), .ref (gx_N G + (a.length + 2)), .ref (gx_N G + (a.length + 3)), .int 0, .ref (gx_N G + (a.length + 4)), .int 0, .int 0, .int 0, .int 0, .int 0, .null, .int 0, .int 0, .int 0, .int 0, .int 0, .int 0, .int 0, .int 0, .int 0, .long 0, .long 0, .long 0, .null, .null, .null, .null, .null, .int 0, .null]), ai G 171, ai G 57, .inl (G.2.1 2, 2, .inl (fun _ => 0)), ai G 57]) (fs := [.ref (gx_N G + (a.length + 1)), .ref (gx_N G + (a.length + 2)), .ref (gx_N G + (a.length + 3)), .int 0, .null, .int 0, .int 0, .int 0, .int 0, .int 0, .null, .int 0, .int 0, .int 0, .int 0, .int 0, .int 0, .int 0, .int 0, .int 0, .long 0, .long 0, .long 0, .null, .null, .null, .null, .null, .int 0, .null]) (kk := 4) (j := 0) (n := 36) wk_X7 dX7_init_33 wf_X7_20 (by decide) rfl (by decide) rfl rfl (Nat.le_of_ble_eq_true rfl) rfl rfl ?_
  refine J_aload_n (i := 0) (n := 37) dX7_init_36 rfl rfl rfl ?_
  refine J_sipush (n := 40) dX7_init_37 kS_160 rfl ?_
  refine J_newaL (l' := [.inr (7, [.ref (gx_N G + (a.length + 1)), .ref (gx_N G + (a.length + 2)), .ref (gx_N G + (a.length + 3)), .int 0, .ref (gx_N G + (a.length + 4)), .int 0, .int 0, .int 0, .int 0, .int 0, .null, .int 0, .int 0, .int 0, .int 0, .int 0, .int 0, .int 0, .int 0, .int 0, .long 0, .long 0, .long 0, .null, .null, .null, .null, .null, .int 0, .null]), ai G 171, ai G 57, .inl (G.2.1 2, 2, .inl (fun _ => 0)), ai G 57, ai G 160]) (N := 160) (j := 5) (n := 42) dX7_init_40 rfl (by decide) rfl rfl ?_
  refine J_putL (l' := [.inr (7, [.ref (gx_N G + (a.length + 1)), .ref (gx_N G + (a.length + 2)), .ref (gx_N G + (a.length + 3)), .int 0, .ref (gx_N G + (a.length + 4)), .int 0, .int 0, .int 0, .int 0, .int 0, .ref (gx_N G + (a.length + 5)), .int 0, .int 0, .int 0, .int 0, .int 0, .int 0, .int 0, .int 0, .int 0, .long 0, .long 0, .long 0, .null, .null, .null, .null, .null, .int 0, .null]), ai G 171, ai G 57, .inl (G.2.1 2, 2, .inl (fun _ => 0)), ai G 57, ai G 160]) (fs := [.ref (gx_N G + (a.length + 1)), .ref (gx_N G + (a.length + 2)), .ref (gx_N G + (a.length + 3)), .int 0, .ref (gx_N G + (a.length + 4)), .int 0, .int 0, .int 0, .int 0, .int 0, .null, .int 0, .int 0, .int 0, .int 0, .int 0, .int 0, .int 0, .int 0, .int 0, .long 0, .long 0, .long 0, .null, .null, .null, .null, .null, .int 0, .null]) (kk := 10) (j := 0) (n := 45) wk_X7 dX7_init_42 wf_X7_23 (by decide) rfl (by decide) rfl rfl (Nat.le_of_ble_eq_true rfl) rfl rfl ?_
  refine J_aload_n (i := 0) (n := 46) dX7_init_45 rfl rfl rfl ?_
  refine J_bipush (n := 48) dX7_init_46 kB_84 rfl ?_
  refine J_newaL (l' := [.inr (7, [.ref (gx_N G + (a.length + 1)), .ref (gx_N G + (a.length + 2)), .ref (gx_N G + (a.length + 3)), .int 0, .ref (gx_N G + (a.length + 4)), .int 0, .int 0, .int 0, .int 0, .int 0, .ref (gx_N G + (a.length + 5)), .int 0, .int 0, .int 0, .int 0, .int 0, .int 0, .int 0, .int 0, .int 0, .long 0, .long 0, .long 0, .null, .null, .null, .null, .null, .int 0, .null]), ai G 171, ai G 57, .inl (G.2.1 2, 2, .inl (fun _ => 0)), ai G 57, ai G 160, ai G 84]) (N := 84) (j := 6) (n := 50) dX7_init_48 rfl (by decide) rfl rfl ?_
  refine J_putL (l' := [.inr (7, [.ref (gx_N G + (a.length + 1)), .ref (gx_N G + (a.length + 2)), .ref (gx_N G + (a.length + 3)), .int 0, .ref (gx_N G + (a.length + 4)), .int 0, .int 0, .int 0, .int 0, .int 0, .ref (gx_N G + (a.length + 5)), .int 0, .int 0, .int 0, .int 0, .int 0, .int 0, .int 0, .int 0, .int 0, .long 0, .long 0, .long 0, .ref (gx_N G + (a.length + 6)), .null, .null, .null, .null, .int 0, .null]), ai G 171, ai G 57, .inl (G.2.1 2, 2, .inl (fun _ => 0)), ai G 57, ai G 160, ai G 84]) (fs := [.ref (gx_N G + (a.length + 1)), .ref (gx_N G + (a.length + 2)), .ref (gx_N G + (a.length + 3)), .int 0, .ref (gx_N G + (a.length + 4)), .int 0, .int 0, .int 0, .int 0, .int 0, .ref (gx_N G + (a.length + 5)), .int 0, .int 0, .int 0, .int 0, .int 0, .int 0, .int 0, .int 0, .int 0, .long 0, .long 0, .long 0, .null, .null, .null, .null, .null, .int 0, .null]) (kk := 23) (j := 0) (n := 53) wk_X7 dX7_init_50 wf_X7_26 (by decide) rfl (by decide) rfl rfl (Nat.le_of_ble_eq_true rfl) rfl rfl ?_
  refine J_aload_n (i := 0) (n := 54) dX7_init_53 rfl rfl rfl ?_
  refine J_bipush (n := 56) dX7_init_54 kB_84 rfl ?_
  refine J_newaL (l' := [.inr (7, [.ref (gx_N G + (a.length + 1)), .ref (gx_N G + (a.length + 2)), .ref (gx_N G + (a.length + 3)), .int 0, .ref (gx_N G + (a.length + 4)), .int 0, .int 0, .int 0, .int 0, .int 0, .ref (gx_N G + (a.length + 5)), .int 0, .int 0, .int 0, .int 0, .int 0, .int 0, .int 0, .int 0, .int 0, .long 0, .long 0, .long 0, .ref (gx_N G + (a.length + 6)), .null, .null, .null, .null, .int 0, .null]), ai G 171, ai G 57, .inl (G.2.1 2, 2, .inl (fun _ => 0)), ai G 57, ai G 160, ai G 84, ai G 84]) (N := 84) (j := 7) (n := 58) dX7_init_56 rfl (by decide) rfl rfl ?_
  refine J_putL (l' := [.inr (7, [.ref (gx_N G + (a.length + 1)), .ref (gx_N G + (a.length + 2)), .ref (gx_N G + (a.length + 3)), .int 0, .ref (gx_N G + (a.length + 4)), .int 0, .int 0, .int 0, .int 0, .int 0, .ref (gx_N G + (a.length + 5)), .int 0, .int 0, .int 0, .int 0, .int 0, .int 0, .int 0, .int 0, .int 0, .long 0, .long 0, .long 0, .ref (gx_N G + (a.length + 6)), .ref (gx_N G + (a.length + 7)), .null, .null, .null, .int 0, .null]), ai G 171, ai G 57, .inl (G.2.1 2, 2, .inl (fun _ => 0)), ai G 57, ai G 160, ai G 84, ai G 84]) (fs := [.ref (gx_N G + (a.length + 1)), .ref (gx_N G + (a.length + 2)), .ref (gx_N G + (a.length + 3)), .int 0, .ref (gx_N G + (a.length + 4)), .int 0, .int 0, .int 0, .int 0, .int 0, .ref (gx_N G + (a.length + 5)), .int 0, .int 0, .int 0, .int 0, .int 0, .int 0, .int 0, .int 0, .int 0, .long 0, .long 0, .long 0, .ref (gx_N G + (a.length + 6)), .null, .null, .null, .null, .int 0, .null]) (kk := 24) (j := 0) (n := 61) wk_X7 dX7_init_58 wf_X7_29 (by decide) rfl (by decide) rfl rfl (Nat.le_of_ble_eq_true rfl) rfl rfl ?_
  refine J_aload_n (i := 0) (n := 62) dX7_init_61 rfl rfl rfl ?_
  refine J_iconst (n := 63) dX7_init_62 kI_4 rfl ?_
  refine J_newaL (l' := [.inr (7, [.ref (gx_N G + (a.length + 1)), .ref (gx_N G + (a.length + 2)), .ref (gx_N G + (a.length + 3)), .int 0, .ref (gx_N G + (a.length + 4)), .int 0, .int 0, .int 0, .int 0, .int 0, .ref (gx_N G + (a.length + 5)), .int 0, .int 0, .int 0, .int 0, .int 0, .int 0, .int 0, .int 0, .int 0, .long 0, .long 0, .long 0, .ref (gx_N G + (a.length + 6)), .ref (gx_N G + (a.length + 7)), .null, .null, .null, .int 0, .null]), ai G 171, ai G 57, .inl (G.2.1 2, 2, .inl (fun _ => 0)), ai G 57, ai G 160, ai G 84, ai G 84, ai G 4]) (N := 4) (j := 8) (n := 65) dX7_init_63 rfl (by decide) rfl rfl ?_
  refine J_putL (l' := [.inr (7, [.ref (gx_N G + (a.length + 1)), .ref (gx_N G + (a.length + 2)), .ref (gx_N G + (a.length + 3)), .int 0, .ref (gx_N G + (a.length + 4)), .int 0, .int 0, .int 0, .int 0, .int 0, .ref (gx_N G + (a.length + 5)), .int 0, .int 0, .int 0, .int 0, .int 0, .int 0, .int 0, .int 0, .int 0, .long 0, .long 0, .long 0, .ref (gx_N G + (a.length + 6)), .ref (gx_N G + (a.length + 7)), .ref (gx_N G + (a.length + 8)), .null, .null, .int 0, .null]), ai G 171, ai G 57, .inl (G.2.1 2, 2, .inl (fun _ => 0)), ai G 57, ai G 160, ai G 84, ai G 84, ai G 4]) (fs := [.ref (gx_N G + (a.length + 1)), .ref (gx_N G + (a.length + 2)), .ref (gx_N G + (a.length + 3)), .int 0, .ref (gx_N G + (a.length + 4)), .int 0, .int 0, .int 0, .int 0, .int 0, .ref (gx_N G + (a.length + 5)), .int 0, .int 0, .int 0, .int 0, .int 0, .int 0, .int 0, .int 0, .int 0, .long 0, .long 0, .long 0, .ref (gx_N G + (a.length + 6)), .ref (gx_N G + (a.length + 7)), .null, .null, .null, .int 0, .null]) (kk := 25) (j := 0) (n := 68) wk_X7 dX7_init_65 wf_X7_32 (by decide) rfl (by decide) rfl rfl (Nat.le_of_ble_eq_true rfl) rfl rfl ?_
  refine J_aload_n (i := 0) (n := 69) dX7_init_68 rfl rfl rfl ?_
  refine J_iconst (n := 70) dX7_init_69 kI_4 rfl ?_
  refine J_newaL (l' := [.inr (7, [.ref (gx_N G + (a.length + 1)), .ref (gx_N G + (a.length + 2)), .ref (gx_N G + (a.length + 3)), .int 0, .ref (gx_N G + (a.length + 4)), .int 0, .int 0, .int 0, .int 0, .int 0, .ref (gx_N G + (a.length + 5)), .int 0, .int 0, .int 0, .int 0, .int 0, .int 0, .int 0, .int 0, .int 0, .long 0, .long 0, .long 0, .ref (gx_N G + (a.length + 6)), .ref (gx_N G + (a.length + 7)), .ref (gx_N G + (a.length + 8)), .null, .null, .int 0, .null]), ai G 171, ai G 57, .inl (G.2.1 2, 2, .inl (fun _ => 0)), ai G 57, ai G 160, ai G 84, ai G 84, ai G 4, ai G 4]) (N := 4) (j := 9) (n := 72) dX7_init_70 rfl (by decide) rfl rfl ?_
  refine J_putL (l' := [.inr (7, [.ref (gx_N G + (a.length + 1)), .ref (gx_N G + (a.length + 2)), .ref (gx_N G + (a.length + 3)), .int 0, .ref (gx_N G + (a.length + 4)), .int 0, .int 0, .int 0, .int 0, .int 0, .ref (gx_N G + (a.length + 5)), .int 0, .int 0, .int 0, .int 0, .int 0, .int 0, .int 0, .int 0, .int 0, .long 0, .long 0, .long 0, .ref (gx_N G + (a.length + 6)), .ref (gx_N G + (a.length + 7)), .ref (gx_N G + (a.length + 8)), .ref (gx_N G + (a.length + 9)), .null, .int 0, .null]), ai G 171, ai G 57, .inl (G.2.1 2, 2, .inl (fun _ => 0)), ai G 57, ai G 160, ai G 84, ai G 84, ai G 4, ai G 4]) (fs := [.ref (gx_N G + (a.length + 1)), .ref (gx_N G + (a.length + 2)), .ref (gx_N G + (a.length + 3)), .int 0, .ref (gx_N G + (a.length + 4)), .int 0, .int 0, .int 0, .int 0, .int 0, .ref (gx_N G + (a.length + 5)), .int 0, .int 0, .int 0, .int 0, .int 0, .int 0, .int 0, .int 0, .int 0, .long 0, .long 0, .long 0, .ref (gx_N G + (a.length + 6)), .ref (gx_N G + (a.length + 7)), .ref (gx_N G + (a.length + 8)), .null, .null, .int 0, .null]) (kk := 26) (j := 0) (n := 75) wk_X7 dX7_init_72 wf_X7_35 (by decide) rfl (by decide) rfl rfl (Nat.le_of_ble_eq_true rfl) rfl rfl ?_
  refine J_aload_n (i := 0) (n := 76) dX7_init_75 rfl rfl rfl ?_
  refine J_sipush (n := 79) dX7_init_76 kS_160 rfl ?_
  refine J_newaL (l' := [.inr (7, [.ref (gx_N G + (a.length + 1)), .ref (gx_N G + (a.length + 2)), .ref (gx_N G + (a.length + 3)), .int 0, .ref (gx_N G + (a.length + 4)), .int 0, .int 0, .int 0, .int 0, .int 0, .ref (gx_N G + (a.length + 5)), .int 0, .int 0, .int 0, .int 0, .int 0, .int 0, .int 0, .int 0, .int 0, .long 0, .long 0, .long 0, .ref (gx_N G + (a.length + 6)), .ref (gx_N G + (a.length + 7)), .ref (gx_N G + (a.length + 8)), .ref (gx_N G + (a.length + 9)), .null, .int 0, .null]), ai G 171, ai G 57, .inl (G.2.1 2, 2, .inl (fun _ => 0)), ai G 57, ai G 160, ai G 84, ai G 84, ai G 4, ai G 4, ai G 160]) (N := 160) (j := 10) (n := 81) dX7_init_79 rfl (by decide) rfl rfl ?_
  refine J_putL (l' := [.inr (7, [.ref (gx_N G + (a.length + 1)), .ref (gx_N G + (a.length + 2)), .ref (gx_N G + (a.length + 3)), .int 0, .ref (gx_N G + (a.length + 4)), .int 0, .int 0, .int 0, .int 0, .int 0, .ref (gx_N G + (a.length + 5)), .int 0, .int 0, .int 0, .int 0, .int 0, .int 0, .int 0, .int 0, .int 0, .long 0, .long 0, .long 0, .ref (gx_N G + (a.length + 6)), .ref (gx_N G + (a.length + 7)), .ref (gx_N G + (a.length + 8)), .ref (gx_N G + (a.length + 9)), .ref (gx_N G + (a.length + 10)), .int 0, .null]), ai G 171, ai G 57, .inl (G.2.1 2, 2, .inl (fun _ => 0)), ai G 57, ai G 160, ai G 84, ai G 84, ai G 4, ai G 4, ai G 160]) (fs := [.ref (gx_N G + (a.length + 1)), .ref (gx_N G + (a.length + 2)), .ref (gx_N G + (a.length + 3)), .int 0, .ref (gx_N G + (a.length + 4)), .int 0, .int 0, .int 0, .int 0, .int 0, .ref (gx_N G + (a.length + 5)), .int 0, .int 0, .int 0, .int 0, .int 0, .int 0, .int 0, .int 0, .int 0, .long 0, .long 0, .long 0, .ref (gx_N G + (a.length + 6)), .ref (gx_N G + (a.length + 7)), .ref (gx_N G + (a.length + 8)), .ref (gx_N G + (a.length + 9)), .null, .int 0, .null]) (kk := 27) (j := 0) (n := 84) wk_X7 dX7_init_81 wf_X7_38 (by decide) rfl (by decide) rfl rfl (Nat.le_of_ble_eq_true rfl) rfl rfl ?_
  refine J_aload_n (i := 0) (n := 85) dX7_init_84 rfl rfl rfl ?_
  refine J_bipush (n := 87) dX7_init_85 kB_57 rfl ?_
  refine J_newaL (l' := [.inr (7, [.ref (gx_N G + (a.length + 1)), .ref (gx_N G + (a.length + 2)), .ref (gx_N G + (a.length + 3)), .int 0, .ref (gx_N G + (a.length + 4)), .int 0, .int 0, .int 0, .int 0, .int 0, .ref (gx_N G + (a.length + 5)), .int 0, .int 0, .int 0, .int 0, .int 0, .int 0, .int 0, .int 0, .int 0, .long 0, .long 0, .long 0, .ref (gx_N G + (a.length + 6)), .ref (gx_N G + (a.length + 7)), .ref (gx_N G + (a.length + 8)), .ref (gx_N G + (a.length + 9)), .ref (gx_N G + (a.length + 10)), .int 0, .null]), ai G 171, ai G 57, .inl (G.2.1 2, 2, .inl (fun _ => 0)), ai G 57, ai G 160, ai G 84, ai G 84, ai G 4, ai G 4, ai G 160, ai G 57]) (N := 57) (j := 11) (n := 89) dX7_init_87 rfl (by decide) rfl rfl ?_
  refine J_putL (l' := [.inr (7, [.ref (gx_N G + (a.length + 1)), .ref (gx_N G + (a.length + 2)), .ref (gx_N G + (a.length + 3)), .int 0, .ref (gx_N G + (a.length + 4)), .int 0, .int 0, .int 0, .int 0, .int 0, .ref (gx_N G + (a.length + 5)), .int 0, .int 0, .int 0, .int 0, .int 0, .int 0, .int 0, .int 0, .int 0, .long 0, .long 0, .long 0, .ref (gx_N G + (a.length + 6)), .ref (gx_N G + (a.length + 7)), .ref (gx_N G + (a.length + 8)), .ref (gx_N G + (a.length + 9)), .ref (gx_N G + (a.length + 10)), .int 0, .ref (gx_N G + (a.length + 11))]), ai G 171, ai G 57, .inl (G.2.1 2, 2, .inl (fun _ => 0)), ai G 57, ai G 160, ai G 84, ai G 84, ai G 4, ai G 4, ai G 160, ai G 57]) (fs := [.ref (gx_N G + (a.length + 1)), .ref (gx_N G + (a.length + 2)), .ref (gx_N G + (a.length + 3)), .int 0, .ref (gx_N G + (a.length + 4)), .int 0, .int 0, .int 0, .int 0, .int 0, .ref (gx_N G + (a.length + 5)), .int 0, .int 0, .int 0, .int 0, .int 0, .int 0, .int 0, .int 0, .int 0, .long 0, .long 0, .long 0, .ref (gx_N G + (a.length + 6)), .ref (gx_N G + (a.length + 7)), .ref (gx_N G + (a.length + 8)), .ref (gx_N G + (a.length + 9)), .ref (gx_N G + (a.length + 10)), .int 0, .null]) (kk := 29) (j := 0) (n := 92) wk_X7 dX7_init_89 wf_X7_41 (by decide) rfl (by decide) rfl rfl (Nat.le_of_ble_eq_true rfl) rfl rfl ?_
  exact k

/-- the state at the start: all numbers 0, but a sheet's lane -/
def w0 : gs_Ob := (fun _ _ => 0, fun _ => 0, fun _ => 0)
def σ0 : gs_S := fun c _ => if c = 1 then (fun _ _ => 0, fun k => if k = 1 then -1 else 0, fun _ => 0) else w0
theorem L6_len (G : gx_G) : (L6 G).length = 113 := by
  unfold L6
  rw [List.length_append, List.length_append, List.length_append, WsL_len, IsL_len, HsL_len]; rfl
theorem bk_5 (G : gx_G) (i n : Nat) (h1 : gs_pos 5 i 1 = n + 1) (h2 : gs_pos 5 i 2 = n + 2) (h3 : gs_pos 5 i 3 = n + 3) (h4 : gs_pos 5 i 4 = n + 4) (h5 : gs_pos 5 i 5 = n + 5) : [gs_cell G σ0 (5, i, 0), gs_cell G σ0 (5, i, 1), gs_cell G σ0 (5, i, 2), gs_cell G σ0 (5, i, 3), gs_cell G σ0 (5, i, 4), gs_cell G σ0 (5, i, 5)] = W5 G n := by
  unfold W5
  rw [← h1, ← h2, ← h3, ← h4, ← h5]
  rfl
theorem bk_2 (G : gx_G) (i n : Nat) (h1 : gs_pos 2 i 1 = n + 1) (h2 : gs_pos 2 i 2 = n + 2) (h3 : gs_pos 2 i 3 = n + 3) : [gs_cell G σ0 (2, i, 0), gs_cell G σ0 (2, i, 1), gs_cell G σ0 (2, i, 2), gs_cell G σ0 (2, i, 3)] = S2 G n := by
  unfold S2
  rw [← h1, ← h2, ← h3]
  rfl
theorem bk_1 (G : gx_G) (i n : Nat) (h1 : gs_pos 1 i 1 = n + 1) : [gs_cell G σ0 (1, i, 0), gs_cell G σ0 (1, i, 1)] = H1 G n := by
  unfold H1
  rw [← h1]
  rfl
theorem bk_3 (G : gx_G) : [gs_cell G σ0 (3, 0, 0), gs_cell G σ0 (3, 0, 1)] = T3 G 19 := by
  unfold T3
  rw [show 19 + 1 = gs_pos 3 0 1 from ps_3_0_1.symm]
  rfl
theorem bk_0 (G : gx_G) (i n : Nat) (h1 : gs_pos 5 (11 + i) 0 = n + 1) (h7 : gs_pos 2 (1 + i) 0 = n + 7) : gs_cell G σ0 (0, i, 0) = .inr (0, [.ref (gx_N G + (n + 1)), .ref (gx_N G + (n + 7)), .int 0]) := by
  rw [← h1, ← h7]
  rfl
theorem bk_4 (G : gx_G) : [gs_cell G σ0 (4, 0, 0), gs_cell G σ0 (3, 0, 0), gs_cell G σ0 (3, 0, 1), gs_cell G σ0 (5, 13, 0), gs_cell G σ0 (5, 13, 1), gs_cell G σ0 (5, 13, 2), gs_cell G σ0 (5, 13, 3), gs_cell G σ0 (5, 13, 4), gs_cell G σ0 (5, 13, 5)] = R4 G 18 := by
  show _ = [.inr (4, [.ref (gx_N G + 19), .ref (gx_N G + 21), .int 0, .int 0, .int 0, .int 0, .int 0, .int 0, .int 0, .int 0])] ++ T3 G 19 ++ W5 G 21
  rw [← bk_3 G, ← bk_5 G 13 21 ps_5_13_1 ps_5_13_2 ps_5_13_3 ps_5_13_4 ps_5_13_5]
  have h1 := ps_3_0_0
  have h2 := ps_5_13_0
  rw [← h1, ← h2]
  rfl
theorem bk_6 (G : gx_G) : gs_cell G σ0 (6, 0, 0) = O6 G := by
  show Sum.inr (6, [Value.ref (gx_N G + gs_pos 5 0 0), .ref (gx_N G + gs_pos 2 0 0), .ref (gx_N G + gs_pos 5 1 0), .ref (gx_N G + gs_pos 6 0 4), .ref (gx_N G + gs_pos 4 0 0), .ref (gx_N G + gs_pos 6 0 6), .ref (gx_N G + gs_pos 6 0 7), .int 0, .int 0]) = O6 G
  rw [ps_5_0_0, ps_2_0_0, ps_5_1_0, ps_6_0_4, ps_4_0_0, ps_6_0_6, ps_6_0_7]
  rfl
theorem bk_7 (G : gx_G) : [gs_cell G σ0 (7, 0, 0), gs_cell G σ0 (7, 0, 1), gs_cell G σ0 (7, 0, 2), gs_cell G σ0 (7, 0, 3), gs_cell G σ0 (7, 0, 5), gs_cell G σ0 (7, 0, 11), gs_cell G σ0 (7, 0, 24), gs_cell G σ0 (7, 0, 25), gs_cell G σ0 (7, 0, 26), gs_cell G σ0 (7, 0, 27), gs_cell G σ0 (7, 0, 28), gs_cell G σ0 (7, 0, 30)] = M7 G 113 := by
  unfold M7
  show [Sum.inr (7, [Value.ref (gx_N G + gs_pos 7 0 1), .ref (gx_N G + gs_pos 7 0 2), .ref (gx_N G + gs_pos 7 0 3), .int 0, .ref (gx_N G + gs_pos 7 0 5), .int 0, .int 0, .int 0, .int 0, .int 0, .ref (gx_N G + gs_pos 7 0 11), .int 0, .int 0, .int 0, .int 0, .int 0, .int 0, .int 0, .int 0, .int 0, .long 0, .long 0, .long 0, .ref (gx_N G + gs_pos 7 0 24), .ref (gx_N G + gs_pos 7 0 25), .ref (gx_N G + gs_pos 7 0 26), .ref (gx_N G + gs_pos 7 0 27), .ref (gx_N G + gs_pos 7 0 28), .int 0, .ref (gx_N G + gs_pos 7 0 30)]), gs_cell G σ0 (7, 0, 1), gs_cell G σ0 (7, 0, 2), gs_cell G σ0 (7, 0, 3), gs_cell G σ0 (7, 0, 5), gs_cell G σ0 (7, 0, 11), gs_cell G σ0 (7, 0, 24), gs_cell G σ0 (7, 0, 25), gs_cell G σ0 (7, 0, 26), gs_cell G σ0 (7, 0, 27), gs_cell G σ0 (7, 0, 28), gs_cell G σ0 (7, 0, 30)] = _
  rw [ps_7_0_1, ps_7_0_2, ps_7_0_3, ps_7_0_5, ps_7_0_11, ps_7_0_24, ps_7_0_25, ps_7_0_26, ps_7_0_27, ps_7_0_28, ps_7_0_30]
  rfl
def Fb (G : gx_G) : Nat → Option Nat := fun j => some (gs_a G 5 (2 + j) 0)
def Fi (G : gx_G) : Nat → Option Nat := fun j => some (gs_a G 0 j 0)
def Fs (G : gx_G) : Nat → Option Nat := fun j => some (gs_a G 1 j 0)
theorem mp_P (G : gx_G) : (gs_lay.take 29).map (gs_cell G σ0) = P6 G (Fb G) (Fi G) (Fs G) := by
  unfold P6
  rw [← bk_5 G 0 1 ps_5_0_1 ps_5_0_2 ps_5_0_3 ps_5_0_4 ps_5_0_5, ← bk_2 G 0 7 ps_2_0_1 ps_2_0_2 ps_2_0_3, ← bk_5 G 1 11 ps_5_1_1 ps_5_1_2 ps_5_1_3 ps_5_1_4 ps_5_1_5, ← bk_4 G, ← bk_6 G]
  rfl
theorem mp_W (G : gx_G) : ((gs_lay.drop 29).take 54).map (gs_cell G σ0) = WsL G 9 := by
  show _ = [] ++ W5 G 29 ++ W5 G 35 ++ W5 G 41 ++ W5 G 47 ++ W5 G 53 ++ W5 G 59 ++ W5 G 65 ++ W5 G 71 ++ W5 G 77
  rw [← bk_5 G 2 29 ps_5_2_1 ps_5_2_2 ps_5_2_3 ps_5_2_4 ps_5_2_5, ← bk_5 G 3 35 ps_5_3_1 ps_5_3_2 ps_5_3_3 ps_5_3_4 ps_5_3_5, ← bk_5 G 4 41 ps_5_4_1 ps_5_4_2 ps_5_4_3 ps_5_4_4 ps_5_4_5, ← bk_5 G 5 47 ps_5_5_1 ps_5_5_2 ps_5_5_3 ps_5_5_4 ps_5_5_5, ← bk_5 G 6 53 ps_5_6_1 ps_5_6_2 ps_5_6_3 ps_5_6_4 ps_5_6_5, ← bk_5 G 7 59 ps_5_7_1 ps_5_7_2 ps_5_7_3 ps_5_7_4 ps_5_7_5, ← bk_5 G 8 65 ps_5_8_1 ps_5_8_2 ps_5_8_3 ps_5_8_4 ps_5_8_5, ← bk_5 G 9 71 ps_5_9_1 ps_5_9_2 ps_5_9_3 ps_5_9_4 ps_5_9_5, ← bk_5 G 10 77 ps_5_10_1 ps_5_10_2 ps_5_10_3 ps_5_10_4 ps_5_10_5]
  rfl
theorem mp_I (G : gx_G) : ((gs_lay.drop 83).take 22).map (gs_cell G σ0) = IsL G 2 := by
  show _ = [] ++ ([.inr (0, [.ref (gx_N G + (83 + 1)), .ref (gx_N G + (83 + 7)), .int 0])] ++ W5 G 84 ++ S2 G 90) ++ ([.inr (0, [.ref (gx_N G + (94 + 1)), .ref (gx_N G + (94 + 7)), .int 0])] ++ W5 G 95 ++ S2 G 101)
  rw [← bk_0 G 0 83 ps_5_11_0 ps_2_1_0, ← bk_0 G 1 94 ps_5_12_0 ps_2_2_0, ← bk_5 G 11 84 ps_5_11_1 ps_5_11_2 ps_5_11_3 ps_5_11_4 ps_5_11_5, ← bk_5 G 12 95 ps_5_12_1 ps_5_12_2 ps_5_12_3 ps_5_12_4 ps_5_12_5, ← bk_2 G 1 90 ps_2_1_1 ps_2_1_2 ps_2_1_3, ← bk_2 G 2 101 ps_2_2_1 ps_2_2_2 ps_2_2_3]
  rfl
theorem mp_H (G : gx_G) : ((gs_lay.drop 105).take 8).map (gs_cell G σ0) = HsL G 4 := by
  show _ = [] ++ H1 G 105 ++ H1 G 107 ++ H1 G 109 ++ H1 G 111
  rw [← bk_1 G 0 105 ps_1_0_1, ← bk_1 G 1 107 ps_1_1_1, ← bk_1 G 2 109 ps_1_2_1, ← bk_1 G 3 111 ps_1_3_1]
  rfl
theorem mp_M (G : gx_G) : (gs_lay.drop 113).map (gs_cell G σ0) = M7 G 113 := by
  rw [← bk_7 G]
  rfl
theorem lay_cut : gs_lay = gs_lay.take 29 ++ ((gs_lay.drop 29).take 54 ++ (gs_lay.drop 83).take 22) ++ (gs_lay.drop 105).take 8 ++ gs_lay.drop 113 := by decide +kernel
theorem mp_all (G : gx_G) : gs_lay.map (gs_cell G σ0) = P6 G (Fb G) (Fi G) (Fs G) ++ (WsL G 9 ++ IsL G 2) ++ HsL G 4 ++ M7 G 113 := by
  rw [lay_cut, List.map_append, List.map_append, List.map_append, List.map_append, mp_P, mp_W, mp_I, mp_H, mp_M]
theorem Fb_is : ∀ j, j < 9 → gs_pos 5 (2 + j) 0 = 29 + 6 * j := by decide +kernel
theorem Fi_is : ∀ j, j < 2 → gs_pos 0 j 0 = 83 + 11 * j := by decide +kernel
theorem Fs_is : ∀ j, j < 4 → gs_pos 1 j 0 = 105 + 2 * j := by decide +kernel
theorem to_hp (G : gx_G) (H : Heap) (hR : gx_R G (hL G (L6 G ++ M7 G 113)) H) : gx_R G (hp G σ0) H := by
  have e : ∀ a b c, P6 G a b c ++ (WsL G 9 ++ IsL G 2) ++ HsL G 4 ++ M7 G 113 = P6 G a b c ++ ((WsL G 9 ++ IsL G 2) ++ (HsL G 4 ++ M7 G 113)) := fun a b c => by simp only [List.append_assoc]
  rw [hp_list, mp_all, e]
  unfold L6 at hR
  rw [e] at hR
  refine P6_to (fun j hj => ?_) (fun j hj => ?_) (fun j hj => ?_) hR
  · show (if j < 9 then some (gx_N G + (29 + 6 * j)) else none) = some (gx_N G + gs_pos 5 (2 + j) 0)
    rw [if_pos hj, Fb_is j hj]
  · show (if j < 2 then some (gx_N G + (83 + 11 * j)) else none) = some (gx_N G + gs_pos 0 j 0)
    rw [if_pos hj, Fi_is j hj]
  · show (if j < 4 then some (gx_N G + (105 + 2 * j)) else none) = some (gx_N G + gs_pos 1 j 0)
    rw [if_pos hj, Fs_is j hj]
def S0 : pS := ((D0, (fun _ _ => 0, 0)), fun _ => false, fun _ => (D0, (fun _ _ => 0, 0)), (fun _ => 0, 0), fun _ => 0, fun _ => (fun _ => 0, 9, 0))
theorem S0_ok : SOk S0 := ⟨⟨D0_ok.1, fun j hj => absurd hj (Nat.not_lt_zero _), Nat.zero_le _, Nat.zero_le _, fun j hj => absurd hj (Nat.not_lt_zero _)⟩, fun k hk h => (by cases h), ⟨Nat.zero_le _, fun q hq => absurd hq (Nat.not_lt_zero _)⟩, fun k hk => ⟨Nat.zero_le _, Or.inr rfl⟩⟩
theorem nI_z : nI 0 = 0 := by decide +kernel
theorem cR_0 (v : gs_Ob) : cR (gs_set σ0 7 0 v) S0 := by
  have e : ∀ c i, c ≠ 7 → gs_set σ0 7 0 v c i = σ0 c i := fun c i h => gs_neC h
  have e5 : ∀ i, σ0 5 i = w0 := fun _ => rfl
  refine ⟨⟨?_, ?_⟩, fun k hk => ⟨?_, fun h => (by cases h)⟩, ⟨fun q hq => absurd hq (Nat.not_lt_zero _), ?_⟩, ⟨?_, ?_⟩, fun k hk => ⟨fun q hq => ?_, ?_, ?_⟩⟩
  · rw [e 5 0 (by decide)]
    exact ⟨fun j hj => nI_z.symm, fun j hj => absurd hj (Nat.not_lt_zero _), fun j hj => absurd hj (Nat.not_lt_zero _), nI_z.symm, fun k _ _ => nI_z.symm⟩
  · rw [e 2 0 (by decide)]
    exact ⟨fun k hk j hj => absurd hj (Nat.not_lt_zero _), nI_z.symm⟩
  · rw [e 0 k (by decide)]; exact nI_z.symm
  · rw [e 3 0 (by decide)]; exact nI_z.symm
  · rw [e 6 0 (by decide)]; exact nI_z.symm
  · rw [e 6 0 (by decide)]; exact nI_z.symm
  · rw [e 1 k (by decide)]; rfl
  · rw [e 1 k (by decide)]; rfl
  · rw [e 1 k (by decide)]; exact nI_z.symm
theorem mR_0 {v v2 v3 : gs_Ob} (h25 : ∀ q, q < 4 → v.1 25 q = -4) (hv : ∀ k, k ≠ 25 → v.1 k = fun _ => 0) (hf : v.2.1 = fun _ => 0) (a1 : ∀ q, q < 57 → v2.1 4 q = nI 0) (a2 : ∀ k, k ≠ 4 → v2.1 k = v.1 k) (a3 : ∀ k, 5 ≤ k → k ≤ 9 → v2.2.1 k = nI 0) (a4 : ∀ k, k < 5 ∨ 9 < k → v2.2.1 k = v.2.1 k) (b1 : ∀ q, q < 57 → v3.1 0 q = v2.1 4 q) (b2 : ∀ k, k ≠ 0 → k ≠ 2 → v3.1 k = v2.1 k) (b3 : v3.1 2 0 = nI 0) (b4 : v3.1 2 1 = nI 0) (b5 : v3.2.1 3 = v2.2.1 5) (b6 : ∀ k, k ≠ 3 → v3.2.1 k = v2.2.1 k) : mR v3 S0 := by
  have z : ∀ q, q < 57 → v3.1 0 q = nI 0 := fun q hq => (b1 q hq).trans (a1 q hq)
  have y : ∀ k, k ≠ 3 → 9 < k → v3.2.1 k = nI 0 := fun k h h9 => by rw [b6 k h, a4 k (Or.inr h9), hf, nI_z]
  have x : ∀ k, k ≠ 0 → k ≠ 2 → k ≠ 4 → v3.1 k = v.1 k := fun k h0 h2 h4 => (b2 k h0 h2).trans (a2 k h4)
  refine ⟨⟨⟨fun j hj => z j (by omega), fun g hg => absurd hg (Nat.not_lt_zero _), fun j hj => absurd hj (Nat.not_lt_zero _), z 28 (by decide), z 29 (by decide), z 36 (by decide), z 37 (by decide)⟩, ⟨z 38 (by decide), fun j hj => absurd hj (Nat.not_lt_zero _)⟩, b5.trans (a3 5 (by decide) (by decide))⟩, fun k hk => ⟨?_, fun h => (by cases h)⟩, ⟨fun q hq => absurd hq (Nat.not_lt_zero _), y 11 (by decide) (by decide)⟩, ⟨y 16 (by decide) (by decide), y 28 (by decide) (by decide)⟩, fun k hk => ⟨fun q hq => ?_, ?_, ?_⟩⟩
  · rcases (show k = 0 ∨ k = 1 by omega) with rfl | rfl
    · exact b3
    · exact b4
  · rw [x 27 (by decide) (by decide) (by decide), hv 27 (by decide)]; rfl
  · rw [x 25 (by decide) (by decide) (by decide), h25 k hk]; rfl
  · rw [x 26 (by decide) (by decide) (by decide), hv 26 (by decide)]; exact nI_z.symm
set_option maxHeartbeats 4000000 in
set_option maxRecDepth 100000 in
theorem j7_94 {G : gx_G} {Q : Option Value → gx_Hp → Prop} (d : Nat) (hq : ∀ v1, mR v1 S0 → Q none (hp G (gs_set σ0 7 0 v1))) : ∀ u e (v : gs_Ob), 4 - e < u → e ≤ 4 → (∀ q, q < e → v.1 25 q = -4) → (∀ k, k ≠ 25 → v.1 k = fun _ => 0) → v.2.1 = (fun _ => 0) → gx_J G mX7_init (d + 1) 0 0 Q 94 [(0, .ref (gs_a G 7 0 0)), (1, .int (nI e))] [] (hp G (gs_set σ0 7 0 v)) := by
  intro u
  induction u with
  | zero => intros; exact absurd (by assumption) (Nat.not_lt_zero _)
  | succ u ih =>
    intro e v hu he h1 h2 h3
    refine J_iload_n (i := 1) (n := 95) dX7_init_94 rfl rfl rfl ?_
    refine J_iconst (n := 96) dX7_init_95 kI_4 rfl ?_
    refine J_icmp_ge (tgt := 113) (n := 99) dX7_init_96 (by decide) rfl (fun c_5 => ?_) (fun c_5 => ?_)
    · rw [nI_leI (by omega) (by omega)] at c_5
      have ee : e = 4 := by omega
      subst ee
      refine J_aload_n (i := 0) (n := 114) dX7_init_113 rfl rfl rfl ?_
      refine J_callVx (n := 117) wS_X7_firstDraft (c_M_firstDraft (v := v) (Q := fun r h => r = none ∧ ∃ v1 : gs_Ob, (∀ q, q < 57 → v1.1 4 q = nI 0) ∧ (∀ k, k ≠ 4 → v1.1 k = v.1 k) ∧ (∀ k, 5 ≤ k → k ≤ 9 → v1.2.1 k = nI 0) ∧ (∀ k, k < 5 ∨ 9 < k → v1.2.1 k = v.2.1 k) ∧ h = hp G (gs_set σ0 7 0 v1)) d (fun v1 a1 a2 a3 a4 => ⟨rfl, v1, a1, a2, a3, a4, rfl⟩)) dX7_init_114 wm_X7_44 ⟨wM_X7_firstDraft, wV_X7_firstDraft⟩ rfl (T_recv (by decide) (by decide)) rfl rfl (Nat.le_of_ble_eq_true rfl) rfl (fun r h1' hq1 => ?_)
      obtain ⟨rfl, v2, a1, a2, a3, a4, rfl⟩ := hq1
      refine J_aload_n (i := 0) (n := 118) dX7_init_117 rfl rfl rfl ?_
      refine J_callVx (n := 121) wS_X7_keepDraft (c_M_keepDraft (v := v2) (Q := fun r h => r = none ∧ ∃ v3 : gs_Ob, mR v3 S0 ∧ h = hp G (gs_set σ0 7 0 v3)) d (fun v3 b1 b2 b3 b4 b5 b6 => ⟨rfl, v3, mR_0 h1 h2 h3 a1 a2 a3 a4 b1 b2 b3 b4 b5 b6, rfl⟩)) dX7_init_118 wm_X7_47 ⟨wM_X7_keepDraft, wV_X7_keepDraft⟩ rfl (T_recv (by decide) (by decide)) rfl rfl (Nat.le_of_ble_eq_true rfl) rfl (fun r h1' hq1 => ?_)
      obtain ⟨rfl, v3, hm, rfl⟩ := hq1
      refine J_vret dX7_init_121 rfl ?_
      exact hq v3 hm
    · rw [nI_leI (by omega) (by omega)] at c_5
      refine J_aload_n (i := 0) (n := 100) dX7_init_99 rfl rfl rfl ?_
      refine T_get (k := 25) (n := 103) wk_X7 dX7_init_100 wf_X7_32 (by decide) (by decide) rfl rfl ?_
      refine J_iload_n (i := 1) (n := 104) dX7_init_103 rfl rfl rfl ?_
      refine J_bipush (n := 106) dX7_init_104 kB_m4 rfl ?_
      refine T_iast (c := 7) (k := 25) (N := 4) (n := 107) dX7_init_106 (by decide) (by decide) (fun _ => rfl) (vp_in_nI (by omega) (by decide)) rfl ?_
      rw [nI_clamp (by omega)]
      refine J_inc (i := 1) (n := 110) (lv' := [(0, _), (1, _)]) dX7_init_107 rfl (by decide) rfl rfl ?_
      refine J_goto (tgt := 94) dX7_init_110 (by decide) ?_
      refine ih (e + 1) _ (by omega) (by omega) (fun q hq0 => ?_) (fun k hk => (gs_wn _ _ hk).trans (h2 k hk)) h3
      rw [gs_wk]
      by_cases eq : q = e
      · subst eq; rw [pk_us]
      · rw [pk_un eq]; exact h1 q (by omega)
theorem i_X7 {G : gx_G} {Q : Option Value → gx_Hp → Prop} (d : Nat) (hq : ∀ v1, mR v1 S0 → Q none (hp G (gs_set σ0 7 0 v1))) : gx_K G yX7_init mX7_init (d + 1) 11 840 [.ref (gx_N G + 113)] (hL G (L6 G ++ [.inr (7, z7)])) Q := by
  have h := i7_a (G := G) (Q := Q) d (L6 G) ?_
  · rw [L6_len] at h; exact h
  · rw [L6_len]
    refine J_iconst (n := 93) dX7_init_92 kI_0 rfl ?_
    refine J_istore_n (i := 1) (n := 94) (lv' := [(0, .ref (gx_N G + (113 + 0))), (1, .int (nI 0))]) dX7_init_93 rfl (by decide) rfl rfl ?_
    refine gx_J.heap (n := 0) (rest := []) (to_hp G) ?_
    have e7 : gs_a G 7 0 0 = gx_N G + (113 + 0) := by unfold gs_a; rw [ps_7_0_0]
    rw [← e7, ← gs_eta σ0 7 0]
    exact j7_94 d hq 5 0 _ (by omega) (by omega) (fun q hq => absurd hq (Nat.not_lt_zero _)) (fun k hk => rfl) rfl

