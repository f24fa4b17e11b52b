/-! ===== String constants ===== -/
theorem gx_kept {G : gx_G} {h : gx_Hp} {H : Heap} (hR : gx_R G h H) : ∀ a : Nat, a < G.2.2.1.size → ¬ gx_N G ≤ a → H[a]? = G.2.2.1[a]? := fun a ha _ => hR.2.2.1 a ha
theorem J_ldcS {G : gx_G} {M : gx_M} {d kc ks : Nat} {Q : Option Value → gx_Hp → Prop} {pc n : Nat} {lv : List (Nat × Value)} {rest : List Value} {h : gx_Hp} {index i : Nat} (hd : decode M.2.1 pc = .ok (.ldc index, 2)) (hi : i < 7) (hM : M.1 = RX4) (he : (gx_txt.getD i (0, "")).1 = index) (hn : pc + 2 = n) (k : gx_J G M d kc ks Q n lv (.ref (G.2.2.2.1 i) :: rest) h) : gx_J G M d kc ks Q pc lv rest h := by
  subst hn
  subst he
  intro p l e R s m args below meth c H locs cells slots ls A hR hL hl hcc hs
  have hts := A.2.2.2.2.2.2.2.1
  have hI := A.2.2.2.2.2.2.2.2.1
  have hown := A.2.2.2.2.2.1
  rw [hM] at hown
  exact va_ldcS A.1 A.2.1 hown (hI.2.2.2.1 i hi) hd (k p l e R s m args below meth c H locs cells slots ls A hR hL hl hcc hs)
theorem J_gstZ {G : gx_G} {M : gx_M} {d kc ks : Nat} {Q : Option Value → gx_Hp → Prop} {pc n : Nat} {lv : List (Nat × Value)} {rest : List Value} {h : gx_Hp} {index : Nat} (hd : decode M.2.1 pc = .ok (.getstatic index, 3)) (hw : Cond.fieldLink M.1 index "java/lang/String" "COMPACT_STRINGS" "Z" ∈ gx_ws) (hn : pc + 3 = n) (k : gx_J G M d kc ks Q n lv (.int 1 :: rest) h) : gx_J G M d kc ks Q pc lv rest h := by
  subst hn
  intro p l e R s m args below meth c H locs cells slots ls A hR hL hl hcc hs
  have hts := A.2.2.2.2.2.2.2.1
  have hI := A.2.2.2.2.2.2.2.2.1
  obtain ⟨cf, kf, fi, f, a, cell, h1, h2, h3, h4, h5, h6, h7, h8⟩ := hI.2.1.1.kept (gx_kept hR)
  exact W.gets A.1 A.2.1 A.2.2.2.2.2.1 (hts _ hw) h1 h2 h3 h4 h5 (fun e => by rw [e] at h6; cases h6) h7 rfl hd (k p l e R s m args below meth c H locs cells slots ls A hR hL hl hcc hs)
theorem J_gstQ {G : gx_G} {M : gx_M} {d kc ks : Nat} {Q : Option Value → gx_Hp → Prop} {pc n : Nat} {lv : List (Nat × Value)} {rest : List Value} {h : gx_Hp} {index : Nat} (hd : decode M.2.1 pc = .ok (.getstatic index, 3)) (hw : Cond.fieldLink M.1 index "jdk/internal/util/Preconditions" "SIOOBE_FORMATTER" "Ljava/util/function/BiFunction;" ∈ gx_ws) (hn : pc + 3 = n) (k0 : gx_J G M d kc ks Q n lv (.null :: rest) h) (k1 : ∀ t, gx_J G M d kc ks Q n lv (.ref t :: rest) h) : gx_J G M d kc ks Q pc lv rest h := by
  subst hn
  intro p l e R s m args below meth c H locs cells slots ls A hR hL hl hcc hs
  have hts := A.2.2.2.2.2.2.2.1
  have hI := A.2.2.2.2.2.2.2.2.1
  rcases hI.2.1.2.1 with hz | ⟨t, hz⟩
  · obtain ⟨cf, kf, fi, f, a, cell, h1, h2, h3, h4, h5, h6, h7, h8⟩ := hz.kept (gx_kept hR)
    exact W.gets A.1 A.2.1 A.2.2.2.2.2.1 (hts _ hw) h1 h2 h3 h4 h5 (fun e => by rw [e] at h6; cases h6) h7 rfl hd (k0 p l e R s m args below meth c H locs cells slots ls A hR hL hl hcc hs)
  · obtain ⟨cf, kf, fi, f, a, cell, h1, h2, h3, h4, h5, h6, h7, h8⟩ := hz.kept (gx_kept hR)
    exact W.gets A.1 A.2.1 A.2.2.2.2.2.1 (hts _ hw) h1 h2 h3 h4 h5 (fun e => by rw [e] at h6; cases h6) h7 rfl hd (k1 t p l e R s m args below meth c H locs cells slots ls A hR hL hl hcc hs)
theorem J_getSv {G : gx_G} {M : gx_M} {d kc ks : Nat} {Q : Option Value → gx_Hp → Prop} {pc n : Nat} {lv : List (Nat × Value)} {rest : List Value} {h : gx_Hp} {index i : Nat} (hd : decode M.2.1 pc = .ok (.getfield index, 3)) (hi : i < 7) (hw : Cond.fieldLink M.1 index "java/lang/String" "value" "[B" ∈ gx_ws) (hn : pc + 3 = n) (k : gx_J G M d kc ks Q n lv (.ref (G.2.2.2.2 i) :: rest) h) : gx_J G M d kc ks Q pc lv (.ref (G.2.2.2.1 i) :: rest) h := by
  subst hn
  intro p l e R s m args below meth c H locs cells slots ls A hR hL hl hcc hs
  have hts := A.2.2.2.2.2.2.2.1
  have hI := A.2.2.2.2.2.2.2.2.1
  obtain ⟨cf, kx, fi, f, cell, h1, h2, h3, h4, h5, h6⟩ := (hI.2.2.1.1 i hi).2.2.1.kept (gx_kept hR)
  exact W.getf A.1 A.2.1 A.2.2.2.2.2.1 (hts _ hw) h1 h2 h3 h4 (v := .ref (G.2.2.2.2 i)) h5 rfl rfl hd (k p l e R s m args below meth c H locs cells slots ls A hR hL hl hcc hs)
theorem J_getSc {G : gx_G} {M : gx_M} {d kc ks : Nat} {Q : Option Value → gx_Hp → Prop} {pc n : Nat} {lv : List (Nat × Value)} {rest : List Value} {h : gx_Hp} {index i : Nat} (hd : decode M.2.1 pc = .ok (.getfield index, 3)) (hi : i < 7) (hw : Cond.fieldLink M.1 index "java/lang/String" "coder" "B" ∈ gx_ws) (hn : pc + 3 = n) (k : gx_J G M d kc ks Q n lv (.int 0 :: rest) h) : gx_J G M d kc ks Q pc lv (.ref (G.2.2.2.1 i) :: rest) h := by
  subst hn
  intro p l e R s m args below meth c H locs cells slots ls A hR hL hl hcc hs
  have hts := A.2.2.2.2.2.2.2.1
  have hI := A.2.2.2.2.2.2.2.2.1
  obtain ⟨cf, kx, fi, f, cell, h1, h2, h3, h4, h5, h6⟩ := (hI.2.2.1.1 i hi).2.1.kept (gx_kept hR)
  exact W.getf A.1 A.2.1 A.2.2.2.2.2.1 (hts _ hw) h1 h2 h3 h4 (v := .int 0) h5 rfl rfl hd (k p l e R s m args below meth c H locs cells slots ls A hR hL hl hcc hs)
theorem J_alenS {G : gx_G} {M : gx_M} {d kc ks : Nat} {Q : Option Value → gx_Hp → Prop} {pc n : Nat} {lv : List (Nat × Value)} {rest : List Value} {h : gx_Hp} {i : Nat} (hd : decode M.2.1 pc = .ok (.arraylength, 1)) (hi : i < 7) (hn : pc + 1 = n) (k : gx_J G M d kc ks Q n lv (.int (nI (([6, 6, 3, 4, 5, 3, 4] : List Nat).getD i 0)) :: rest) h) : gx_J G M d kc ks Q pc lv (.ref (G.2.2.2.2 i) :: rest) h := by
  subst hn
  intro p l e R s m args below meth c H locs cells slots ls A hR hL hl hcc hs
  have hts := A.2.2.2.2.2.2.2.1
  have hI := A.2.2.2.2.2.2.2.2.1
  obtain ⟨cell, h1, h2, h3, h4, h5, h6, h7⟩ := (hI.2.2.1.1 i hi).2.2.2.kept (gx_kept hR)
  exact W.alen (n := Int32.ofNat (([6, 6, 3, 4, 5, 3, 4] : List Nat).getD i 0)) A.1 A.2.1 h1 h2 h5 rfl rfl hd (k p l e R s m args below meth c H locs cells slots ls A hR hL hl hcc hs)
theorem J_baldS {G : gx_G} {M : gx_M} {d kc ks : Nat} {Q : Option Value → gx_Hp → Prop} {pc n : Nat} {lv : List (Nat × Value)} {rest : List Value} {h : gx_Hp} {i : Nat} {j : Int32} (hd : decode M.2.1 pc = .ok (.baload, 1)) (hi : i < 7) (hin : vp_in j (([6, 6, 3, 4, 5, 3, 4] : List Nat).getD i 0)) (hn : pc + 1 = n) (k : gx_J G M d kc ks Q n lv (.int ((gx_byt.getD i []).getD j.toNatClampNeg 0) :: rest) h) : gx_J G M d kc ks Q pc lv (.int j :: .ref (G.2.2.2.2 i) :: rest) h := by
  subst hn
  intro p l e R s m args below meth c H locs cells slots ls A hR hL hl hcc hs
  have hts := A.2.2.2.2.2.2.2.1
  have hI := A.2.2.2.2.2.2.2.2.1
  obtain ⟨cell, h1, h2, h3, h4, h5, h6, h7⟩ := (hI.2.2.1.1 i hi).2.2.2.kept (gx_kept hR)
  have hlt : j.toNatClampNeg < ([6, 6, 3, 4, 5, 3, 4] : List Nat).getD i 0 := Nat.not_le.mp fun q => hin (Or.inr q)
  have hin' : ¬ (j < 0 ∨ cell.slots.size ≤ j.toNatClampNeg) := by
    intro q
    rcases q with q | q
    · exact hin (Or.inl q)
    · omega
  exact W.bald (v := .int ((gx_byt.getD i []).getD j.toNatClampNeg 0)) A.1 A.2.1 h1 h2 h3 hin' (h6 _ hlt) rfl rfl hd (k p l e R s m args below meth c H locs cells slots ls A hR hL hl hcc hs)
theorem J_callStr {G : gx_G} {M : gx_M} {d kc ks : Nat} {Q : Option Value → gx_Hp → Prop} {pc n : Nat} {lv : List (Nat × Value)} {rest : List Value} {h : gx_Hp} {y : MethodName} {M1 : gx_M} {np index i : Nat} {As st0 : List Value} {v : Value} (hS : gx_St y M1 np) (hK : gx_K G y M1 d 0 0 (.ref (G.2.2.2.1 i) :: As) h (fun r h1 => r = some v ∧ h1 = h)) (hi : i < 7) (hd : decode M.2.1 pc = .ok (.invokevirtual index, 3)) (hw : Cond.methodLink M.1 index y ∈ gx_ws) (hw1 : Cond.instanceMethod y ∈ gx_ws ∧ Cond.selects "java/lang/String" y y ∈ gx_ws) (hA : As.length = np) (hstk : st0 = As.reverse ++ .ref (G.2.2.2.1 i) :: rest) (hst : (rest.map fun v => v.category).sum ≤ 8) (hn : pc + 3 = n)
    (k : gx_J G M (d + 1) kc ks Q n lv (v :: rest) h) : gx_J G M (d + 1) (0 + kc) (0 + ks) Q pc lv st0 h := by
  subst hn
  subst hstk
  intro p l e R s m args below meth c H locs cells slots ls A hR hL hl hcc hs
  obtain ⟨hx, hcb, hml, -, -, hown, -, hts, hI, hfr, hlo⟩ := id A
  obtain ⟨s1, s2, s3, s4⟩ := hS
  obtain ⟨cell, c1, c2, c3, -⟩ := (hI.2.2.1.1 i hi).1.kept (gx_kept hR)
  refine gx_callX (a := (Value.ref (G.2.2.2.1 i) :: As).toArray) A hL hl hcc hs (va_runV (C := "java/lang/String") (nL := M.2.2.1) (rm := { frames := d, cells := 0, slots := 0, locals := 100 * d }) ⟨hx, hcb, hml, hown, hts⟩ (hK l _ rfl rfl rfl rfl) ⟨callB_of np hts (gx_goodIn s1) rfl rfl rfl (hts _ s2) (hts _ hw) s3 ⟨by show d + 1 ≤ _; omega, by show 8 + (_ + 11) + 100 * d ≤ _; omega⟩, hts _ hw1.1, hts _ hw1.2⟩ ⟨gx_blind _ _ _, ⟨cell, c1, c2, c3⟩, fun U hU hW => ⟨rfl, hI.moved hW, by rw [hU]; exact hR⟩⟩ rfl hA hl.1 rfl (lv_room hst) hd ⟨by omega, by omega⟩) (fun r h1 q => by obtain ⟨rfl, rfl⟩ := q; exact k)
def sc (i : Nat) : List Nat := ([[115, 105, 103, 110, 101, 114], [100, 97, 110, 99, 101, 114], [115, 104, 121], [102, 97, 109, 101], [114, 111, 117, 116, 101], [109, 97, 110], [98, 111, 108, 100]] : List (List Nat)).getD i []
theorem sc_byt : ∀ i, i < 7 → ∀ j, j < ([6, 6, 3, 4, 5, 3, 4] : List Nat).getD i 0 → (((gx_byt.getD i []).getD j 0 &&& nI 255).toUInt32 % 65536).toInt32 = nI ((sc i).getD j 0) ∧ (sc i).getD j 0 < 128 := by decide +kernel
theorem sc_len : ∀ i, i < 7 → (sc i).length = ([6, 6, 3, 4, 5, 3, 4] : List Nat).getD i 0 ∧ ([6, 6, 3, 4, 5, 3, 4] : List Nat).getD i 0 ≤ 6 := by decide
theorem nar_c : ∀ c, c < 128 → narrow .char (.int (nI c)) = .int (nI c) := by decide +kernel
theorem sh_0 : ∀ n, n ≤ 6 → nI n >>> ((0 : Int32) &&& 31) = nI n := by decide +kernel
set_option maxHeartbeats 4000000 in
set_option maxRecDepth 100000 in
theorem c_Str_coder {G : gx_G} {h : gx_Hp} (d : Nat) {i : Nat} (hi : i < 7) : gx_K G yJ0_coder_7d493 mJ0_coder_7d493 d 0 0 [.ref (G.2.2.2.1 i)] h (fun r h1 => r = some (.int (0)) ∧ h1 = h) := by
  refine gx_K.of' (lv := [(0, _)]) (by decide) rfl (by decide) (Nat.le_of_ble_eq_true rfl) rfl ?_
  refine J_gstZ (n := 3) dJ0_coder_7d493_0 wf_J0_38 rfl ?_
  refine J_if_eq (tgt := 13) (n := 6) dJ0_coder_7d493_3 (by decide) rfl (fun c_3 => ?_) (fun c_3 => ?_)
  · exact absurd c_3 (by decide +kernel)
  · refine J_aload_n (i := 0) (n := 7) dJ0_coder_7d493_6 rfl rfl rfl ?_
    refine J_getSc (n := 10) dJ0_coder_7d493_7 hi wf_J0_15 rfl ?_
    refine J_goto (tgt := 14) dJ0_coder_7d493_10 (by decide) ?_
    refine J_iret dJ0_coder_7d493_14 rfl (by decide +kernel) ?_
    exact ⟨rfl, rfl⟩

set_option maxHeartbeats 4000000 in
set_option maxRecDepth 100000 in
theorem c_Str_latin {G : gx_G} {h : gx_Hp} (d : Nat) {i : Nat} (hi : i < 7) : gx_K G yJ0_isLatin1_aae02 mJ0_isLatin1_aae02 d 0 0 [.ref (G.2.2.2.1 i)] h (fun r h1 => r = some (.int (nI 1)) ∧ h1 = h) := by
  refine gx_K.of' (lv := [(0, _)]) (by decide) rfl (by decide) (Nat.le_of_ble_eq_true rfl) rfl ?_
  refine J_gstZ (n := 3) dJ0_isLatin1_aae02_0 wf_J0_38 rfl ?_
  refine J_if_eq (tgt := 17) (n := 6) dJ0_isLatin1_aae02_3 (by decide) rfl (fun c_3 => ?_) (fun c_3 => ?_)
  · exact absurd c_3 (by decide +kernel)
  · refine J_aload_n (i := 0) (n := 7) dJ0_isLatin1_aae02_6 rfl rfl rfl ?_
    refine J_getSc (n := 10) dJ0_isLatin1_aae02_7 hi wf_J0_15 rfl ?_
    refine J_if_ne (tgt := 17) (n := 13) dJ0_isLatin1_aae02_10 (by decide) rfl (fun c_10 => ?_) (fun c_10 => ?_)
    · exact absurd rfl c_10
    · refine J_iconst (n := 14) dJ0_isLatin1_aae02_13 kI_1 rfl ?_
      refine J_goto (tgt := 18) dJ0_isLatin1_aae02_14 (by decide) ?_
      refine J_iret dJ0_isLatin1_aae02_18 rfl (by first | exact kN_0 | exact kN_1) ?_
      exact ⟨rfl, rfl⟩

set_option maxHeartbeats 4000000 in
set_option maxRecDepth 100000 in
theorem c_Str_length {G : gx_G} {h : gx_Hp} (d : Nat) {i : Nat} (hi : i < 7) : gx_K G yJ0_length_8abf5 mJ0_length_8abf5 (d + 1) 0 0 [.ref (G.2.2.2.1 i)] h (fun r h1 => r = some (.int (nI (([6, 6, 3, 4, 5, 3, 4] : List Nat).getD i 0))) ∧ h1 = h) := by
  refine gx_K.of' (lv := [(0, _)]) (by decide) rfl (by decide) (Nat.le_of_ble_eq_true rfl) rfl ?_
  refine J_aload_n (i := 0) (n := 1) dJ0_length_8abf5_0 rfl rfl rfl ?_
  refine J_getSv (n := 4) dJ0_length_8abf5_1 hi wf_J0_9 rfl ?_
  refine J_alenS (n := 5) dJ0_length_8abf5_4 hi rfl ?_
  refine J_aload_n (i := 0) (n := 6) dJ0_length_8abf5_5 rfl rfl rfl ?_
  have hcs_6 := c_Str_coder (G := G) (h := h) d hi
  refine J_callStr (kc := 0) (ks := 0) (n := 9) wS_J0_coder_7d493 hcs_6 hi dJ0_length_8abf5_6 wm_J0_335 ⟨wM_J0_coder_7d493, wV_J0_coder_7d493⟩ rfl rfl (Nat.le_of_ble_eq_true rfl) rfl ?_
  refine J_ishr (n := 10) dJ0_length_8abf5_9 rfl ?_
  rw [sh_0 _ (sc_len i hi).2]
  refine J_iret dJ0_length_8abf5_10 rfl (kN_i _) ?_
  exact ⟨rfl, rfl⟩

set_option maxHeartbeats 4000000 in
set_option maxRecDepth 100000 in
theorem c_Pre_checkN {G : gx_G} {h : gx_Hp} {Q : Option Value → gx_Hp → Prop} (d : Nat) {j k t : Nat} (hj : j < k) (hk : k ≤ 6) (hq : Q (some (.int (nI j))) h) : gx_K G yJ3_checkIndex_8e157 mJ3_checkIndex_8e157 d 0 0 [.int (nI j), .int (nI k), .null] h Q := by
  refine gx_K.of' (lv := [(0, _), (1, _), (2, _)]) (by decide) rfl (by decide) (Nat.le_of_ble_eq_true rfl) rfl ?_
  refine J_iload_n (i := 0) (n := 1) dJ3_checkIndex_8e157_0 rfl rfl rfl ?_
  refine J_if_lt (tgt := 9) (n := 4) dJ3_checkIndex_8e157_1 (by decide) rfl (fun c_1 => ?_) (fun c_1 => ?_)
  · exact absurd c_1 (nI_pos (by omega))
  · refine J_iload_n (i := 0) (n := 5) dJ3_checkIndex_8e157_4 rfl rfl rfl ?_
    refine J_iload_n (i := 1) (n := 6) dJ3_checkIndex_8e157_5 rfl rfl rfl ?_
    refine J_icmp_lt (tgt := 16) (n := 9) dJ3_checkIndex_8e157_6 (by decide) rfl (fun c_6 => ?_) (fun c_6 => ?_)
    · refine J_iload_n (i := 0) (n := 17) dJ3_checkIndex_8e157_16 rfl rfl rfl ?_
      refine J_iret dJ3_checkIndex_8e157_17 rfl (kN_i _) ?_
      exact hq
    · exfalso
      rw [nI_ltI (by omega) (by omega)] at c_6
      omega

set_option maxHeartbeats 4000000 in
set_option maxRecDepth 100000 in
theorem c_Pre_checkR {G : gx_G} {h : gx_Hp} {Q : Option Value → gx_Hp → Prop} (d : Nat) {j k t : Nat} (hj : j < k) (hk : k ≤ 6) (hq : Q (some (.int (nI j))) h) : gx_K G yJ3_checkIndex_8e157 mJ3_checkIndex_8e157 d 0 0 [.int (nI j), .int (nI k), (.ref t)] h Q := by
  refine gx_K.of' (lv := [(0, _), (1, _), (2, _)]) (by decide) rfl (by decide) (Nat.le_of_ble_eq_true rfl) rfl ?_
  refine J_iload_n (i := 0) (n := 1) dJ3_checkIndex_8e157_0 rfl rfl rfl ?_
  refine J_if_lt (tgt := 9) (n := 4) dJ3_checkIndex_8e157_1 (by decide) rfl (fun c_1 => ?_) (fun c_1 => ?_)
  · exact absurd c_1 (nI_pos (by omega))
  · refine J_iload_n (i := 0) (n := 5) dJ3_checkIndex_8e157_4 rfl rfl rfl ?_
    refine J_iload_n (i := 1) (n := 6) dJ3_checkIndex_8e157_5 rfl rfl rfl ?_
    refine J_icmp_lt (tgt := 16) (n := 9) dJ3_checkIndex_8e157_6 (by decide) rfl (fun c_6 => ?_) (fun c_6 => ?_)
    · refine J_iload_n (i := 0) (n := 17) dJ3_checkIndex_8e157_16 rfl rfl rfl ?_
      refine J_iret dJ3_checkIndex_8e157_17 rfl (kN_i _) ?_
      exact hq
    · exfalso
      rw [nI_ltI (by omega) (by omega)] at c_6
      omega

set_option maxHeartbeats 4000000 in
set_option maxRecDepth 100000 in
theorem c_Str_check {G : gx_G} {h : gx_Hp} {Q : Option Value → gx_Hp → Prop} (d : Nat) {j k : Nat} (hj : j < k) (hk : k ≤ 6) (hq : Q none h) : gx_K G yJ0_checkIndex_df160 mJ0_checkIndex_df160 (d + 1) 0 0 [.int (nI j), .int (nI k)] h Q := by
  refine gx_K.of' (lv := [(0, _), (1, _)]) (by decide) rfl (by decide) (Nat.le_of_ble_eq_true rfl) rfl ?_
  refine J_iload_n (i := 0) (n := 1) dJ0_checkIndex_df160_0 rfl rfl rfl ?_
  refine J_iload_n (i := 1) (n := 2) dJ0_checkIndex_df160_1 rfl rfl rfl ?_
  refine J_gstQ (n := 5) dJ0_checkIndex_df160_2 wf_J0_1053 rfl ?_ (fun t => ?_)
  · refine J_callSr (n := 8) wS_J3_checkIndex_8e157 (c_Pre_checkN (t := 0) d hj hk ⟨rfl, rfl⟩) dJ0_checkIndex_df160_5 wm_J0_1059 wT_J3_checkIndex_8e157 rfl rfl (Nat.le_of_ble_eq_true rfl) rfl ?_
    refine J_pop (n := 9) dJ0_checkIndex_df160_8 rfl rfl ?_
    refine J_vret dJ0_checkIndex_df160_9 rfl ?_
    exact hq
  · refine J_callSr (n := 8) wS_J3_checkIndex_8e157 (c_Pre_checkR (t := t) d hj hk ⟨rfl, rfl⟩) dJ0_checkIndex_df160_5 wm_J0_1059 wT_J3_checkIndex_8e157 rfl rfl (Nat.le_of_ble_eq_true rfl) rfl ?_
    refine J_pop (n := 9) dJ0_checkIndex_df160_8 rfl rfl ?_
    refine J_vret dJ0_checkIndex_df160_9 rfl ?_
    exact hq

set_option maxHeartbeats 4000000 in
set_option maxRecDepth 100000 in
theorem c_L1_charAt {G : gx_G} {h : gx_Hp} {Q : Option Value → gx_Hp → Prop} (d : Nat) {i j : Nat} (hi : i < 7) (hj : j < (([6, 6, 3, 4, 5, 3, 4] : List Nat).getD i 0)) (hq : Q (some (.int (nI ((sc i).getD j 0)))) h) : gx_K G yJ1_charAt_3b067 mJ1_charAt_3b067 (d + 2) 0 0 [.ref (G.2.2.2.2 i), .int (nI j)] h Q := by
  refine gx_K.of' (lv := [(0, _), (1, _)]) (by decide) rfl (by decide) (Nat.le_of_ble_eq_true rfl) rfl ?_
  have hl6 := (sc_len i hi).2
  refine J_iload_n (i := 1) (n := 1) dJ1_charAt_3b067_0 rfl rfl rfl ?_
  refine J_aload_n (i := 0) (n := 2) dJ1_charAt_3b067_1 rfl rfl rfl ?_
  refine J_alenS (n := 3) dJ1_charAt_3b067_2 hi rfl ?_
  refine J_callSv (n := 6) wS_J0_checkIndex_df160 (c_Str_check d hj hl6 ⟨rfl, rfl⟩) dJ1_charAt_3b067_3 wm_J1_9 wT_J0_checkIndex_df160 rfl rfl (Nat.le_of_ble_eq_true rfl) rfl ?_
  refine J_aload_n (i := 0) (n := 7) dJ1_charAt_3b067_6 rfl rfl rfl ?_
  refine J_iload_n (i := 1) (n := 8) dJ1_charAt_3b067_7 rfl rfl rfl ?_
  refine J_baldS (n := 9) dJ1_charAt_3b067_8 hi (vp_in_nI hj (by omega)) rfl ?_
  rw [nI_clamp (by omega)]
  refine J_sipush (n := 12) dJ1_charAt_3b067_9 kS_255 rfl ?_
  refine J_iand (n := 13) dJ1_charAt_3b067_12 rfl ?_
  refine J_i2c (n := 14) dJ1_charAt_3b067_13 rfl ?_
  rw [(sc_byt i hi j hj).1]
  refine J_iret dJ1_charAt_3b067_14 rfl (nar_c _ (sc_byt i hi j hj).2) ?_
  exact hq

set_option maxHeartbeats 4000000 in
set_option maxRecDepth 100000 in
theorem c_Str_charAt {G : gx_G} {h : gx_Hp} (d : Nat) {i : Nat} (hi : i < 7) {j : Nat} (hj : j < (([6, 6, 3, 4, 5, 3, 4] : List Nat).getD i 0)) : gx_K G yJ0_charAt_5068e mJ0_charAt_5068e (d + 3) 0 0 [.ref (G.2.2.2.1 i), .int (nI j)] h (fun r h1 => r = some (.int (nI ((sc i).getD j 0))) ∧ h1 = h) := by
  refine gx_K.of' (lv := [(0, _), (1, _)]) (by decide) rfl (by decide) (Nat.le_of_ble_eq_true rfl) rfl ?_
  refine J_aload_n (i := 0) (n := 1) dJ0_charAt_5068e_0 rfl rfl rfl ?_
  have hcs_1 := c_Str_latin (G := G) (h := h) (d + 2) hi
  refine J_callStr (kc := 0) (ks := 0) (n := 4) wS_J0_isLatin1_aae02 hcs_1 hi dJ0_charAt_5068e_1 wm_J0_492 ⟨wM_J0_isLatin1_aae02, wV_J0_isLatin1_aae02⟩ rfl rfl (Nat.le_of_ble_eq_true rfl) rfl ?_
  refine J_if_eq (tgt := 16) (n := 7) dJ0_charAt_5068e_4 (by decide) rfl (fun c_4 => ?_) (fun c_4 => ?_)
  · exact absurd c_4 (by decide +kernel)
  · refine J_aload_n (i := 0) (n := 8) dJ0_charAt_5068e_7 rfl rfl rfl ?_
    refine J_getSv (n := 11) dJ0_charAt_5068e_8 hi wf_J0_9 rfl ?_
    refine J_iload_n (i := 1) (n := 12) dJ0_charAt_5068e_11 rfl rfl rfl ?_
    refine J_callSr (n := 15) wS_J1_charAt_3b067 (c_L1_charAt d hi hj ⟨rfl, rfl⟩) dJ0_charAt_5068e_12 wm_J0_495 wT_J1_charAt_3b067 rfl rfl (Nat.le_of_ble_eq_true rfl) rfl ?_
    refine J_iret dJ0_charAt_5068e_15 rfl (nar_c _ (sc_byt i hi j hj).2) ?_
    exact ⟨rfl, rfl⟩

