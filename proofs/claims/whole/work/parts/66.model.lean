theorem tOf_4 {t : Nat → Nat} {L n w : Nat} {D : pw} (h : (tk t L n).1 = 4) : tOf t L D w n = .inl (1, tb t L n) := by
  unfold tOf tFam tRou tMan tGlv
  rw [tNums_4 h, tNums_4 h, tNum_4 h]
  split
  · rfl
  · split
    · rfl
    · split <;> rfl
def bm (t : Nat → Nat) (L : Nat) (y : pE ⊕ (Nat × pw)) : pE ⊕ (Nat × pw) := bnd y fun x => bnd (tMark t L x.1) fun n1 => .inr (n1, x.2)
theorem tMark_4 {t : Nat → Nat} {L i : Nat} (h : (tk t L i).1 = 4) : tMark t L i = .inl (1, tb t L i) := if_pos h
theorem tMark_n {t : Nat → Nat} {L i : Nat} (h : ¬ (tk t L i).1 = 4) (h2 : ¬ (tk t L i).1 = 3) : tMark t L i = .inl (2, tb t L i) := (if_neg h).trans (if_pos h2)
theorem tMark_s {t : Nat → Nat} {L i : Nat} (h2 : (tk t L i).1 = 3) : tMark t L i = .inr (tk t L i).2.1 := (if_neg (by omega)).trans (if_neg (Classical.not_not.mpr h2))
theorem bm_fst (t : Nat → Nat) (L : Nat) (y : pE ⊕ (Nat × pw)) : fst2 (bm t L y) = bnd (fst2 y) (tMark t L) := by
  cases y with
  | inl e => rfl
  | inr x =>
    show fst2 (bnd (tMark t L x.1) fun n1 => .inr (n1, x.2)) = tMark t L x.1
    cases tMark t L x.1 <;> rfl
theorem mfl.of {v w : gs_Ob} {td : Nat → Bool} (h : mfl v td) (h7 : w.2.1 7 = v.2.1 7) (h8 : w.2.1 8 = v.2.1 8) (h9 : w.2.1 9 = v.2.1 9) : mfl w td := by
  unfold mfl
  rw [h7, h8, h9]; exact h
theorem nI_gt0 {f : Nat} (h : f < 2 ^ 31) : nI f ≤ 0 ↔ f = 0 := nI_le0 h
set_option maxHeartbeats 4000000 in
set_option maxRecDepth 100000 in
theorem j_rl_156 {G : gx_G} {σ : gs_S} {Q : Option Value → gx_Hp → Prop} (d : Nat) {v : gs_Ob} {x : pE ⊕ Nat} {x1 : Int32} {t : Nat → Nat} {L : Nat} (ht : tOk t L) (htp : mtp v t L) (hx : mst v t L x) (hq : ∀ v1, mA v v1 [12, 13, 14, 15, 16, 17] → mst v1 t L (bnd x (tMark t L)) → Q none (hp G (gs_set σ 7 0 v1))) : gx_J G mX7_readLine (d + 6) 0 0 Q 156 [(0, .ref (gs_a G 7 0 0)), (1, .int x1)] [] (hp G (gs_set σ 7 0 v)) := by
  cases x with
  | inl e =>
    have hfe : mflt v e := hx
    have hne := flt_ne hfe
    have hxx : msx v L (bnd (Sum.inl e) (tMark t L)) := hfe
    refine J_aload_n (i := 0) (n := 157) dX7_readLine_156 rfl rfl rfl ?_
    refine T_get (k := 16) (n := 160) wk_X7 dX7_readLine_157 wf_X7_79 (by decide) (by decide) rfl rfl ?_
    refine J_if_ne (tgt := 181) (n := 163) dX7_readLine_160 (by decide) rfl (fun c_160 => ?_) (fun c_160 => ?_)
    · refine J_aload_n (i := 0) (n := 182) dX7_readLine_181 rfl rfl rfl ?_
      refine J_callVx (n := 185) wS_X7_reads (c_M_reads (Q := fun r h => r = none ∧ ∃ v2, mA v v2 [12, 13, 14, 15, 16, 17] ∧ mst v2 t L (bnd (Sum.inl e) (tMark t L)) ∧ h = hp G (gs_set σ 7 0 v2)) (d + 3) ht htp hxx (fun v2 h1 h2 => ⟨rfl, v2, h1, h2, rfl⟩)) dX7_readLine_182 wm_X7_125 ⟨wM_X7_reads, wV_X7_reads⟩ rfl (T_recv (by decide) (by decide)) rfl rfl (Nat.le_of_ble_eq_true rfl) rfl (fun r h1 hq1 => ?_)
      obtain ⟨rfl, v2, hA2, hx2, rfl⟩ := hq1
      refine J_vret dX7_readLine_185 rfl ?_
      exact hq v2 hA2 hx2
    · exact absurd c_160 hne
  | inr i =>
    obtain ⟨hx, hiL⟩ := hx
    have hkk := tk_k (t := t) hiL
    by_cases hk4 : (tk t L i).1 = 4
    · have hfe := mtk_4 hx hk4
      have hne := flt_ne hfe
      have hxx : msx v L (bnd (Sum.inr i) (tMark t L)) := by rw [show bnd (Sum.inr i) (tMark t L) = .inl (1, tb t L i) from tMark_4 hk4]; exact hfe
      refine J_aload_n (i := 0) (n := 157) dX7_readLine_156 rfl rfl rfl ?_
      refine T_get (k := 16) (n := 160) wk_X7 dX7_readLine_157 wf_X7_79 (by decide) (by decide) rfl rfl ?_
      refine J_if_ne (tgt := 181) (n := 163) dX7_readLine_160 (by decide) rfl (fun c_160 => ?_) (fun c_160 => ?_)
      · refine J_aload_n (i := 0) (n := 182) dX7_readLine_181 rfl rfl rfl ?_
        refine J_callVx (n := 185) wS_X7_reads (c_M_reads (Q := fun r h => r = none ∧ ∃ v2, mA v v2 [12, 13, 14, 15, 16, 17] ∧ mst v2 t L (bnd (Sum.inr i) (tMark t L)) ∧ h = hp G (gs_set σ 7 0 v2)) (d + 3) ht htp hxx (fun v2 h1 h2 => ⟨rfl, v2, h1, h2, rfl⟩)) dX7_readLine_182 wm_X7_125 ⟨wM_X7_reads, wV_X7_reads⟩ rfl (T_recv (by decide) (by decide)) rfl rfl (Nat.le_of_ble_eq_true rfl) rfl (fun r h1 hq1 => ?_)
        obtain ⟨rfl, v2, hA2, hx2, rfl⟩ := hq1
        refine J_vret dX7_readLine_185 rfl ?_
        exact hq v2 hA2 hx2
      · exact absurd c_160 hne
    · obtain ⟨h16, h13, h12, h14, h15⟩ := mtk_n hx hk4
      by_cases hk3 : (tk t L i).1 = 3
      · have hy : bnd (Sum.inr i) (tMark t L) = .inr (tk t L i).2.1 := tMark_s hk3
        refine J_aload_n (i := 0) (n := 157) dX7_readLine_156 rfl rfl rfl ?_
        refine T_get (k := 16) (n := 160) wk_X7 dX7_readLine_157 wf_X7_79 (by decide) (by decide) rfl rfl ?_
        refine J_if_ne (tgt := 181) (n := 163) dX7_readLine_160 (by decide) rfl (fun c_160 => ?_) (fun c_160 => ?_)
        · exact absurd (show v.2.1 16 = 0 from h16) c_160
        · refine J_aload_n (i := 0) (n := 164) dX7_readLine_163 rfl rfl rfl ?_
          refine J_aload_n (i := 0) (n := 165) dX7_readLine_164 rfl rfl rfl ?_
          refine T_get (k := 14) (n := 168) wk_X7 dX7_readLine_165 wf_X7_103 (by decide) (by decide) rfl rfl ?_
          rw [h14, hk3]
          refine J_iconst (n := 169) dX7_readLine_168 kI_3 rfl ?_
          refine J_icmp_ne (tgt := 176) (n := 172) dX7_readLine_169 (by decide) rfl (fun c_169 => ?_) (fun c_169 => ?_)
          · exact absurd rfl c_169
          · refine J_iconst (n := 173) dX7_readLine_172 kI_1 rfl ?_
            refine J_goto (tgt := 177) dX7_readLine_173 (by decide) ?_
            refine J_iconst (n := 178) dX7_readLine_177 kI_2 rfl ?_
            refine J_callVv (n := 181) wS_X7_requires (c_M_requires (d + 5) true (nI 2) ⟨rfl, rfl⟩) dX7_readLine_178 wm_X7_117 ⟨wM_X7_requires, wV_X7_requires⟩ rfl (T_recv (by decide) (by decide)) rfl rfl (Nat.le_of_ble_eq_true rfl) rfl ?_
            rw [rqv_t]
            refine J_aload_n (i := 0) (n := 182) dX7_readLine_181 rfl rfl rfl ?_
            refine J_callVx (n := 185) wS_X7_reads (c_M_reads (Q := fun r h => r = none ∧ ∃ v2, mA v v2 [12, 13, 14, 15, 16, 17] ∧ mst v2 t L (bnd (Sum.inr i) (tMark t L)) ∧ h = hp G (gs_set σ 7 0 v2)) (d + 3) ht htp (by rw [hy]; exact ⟨h16, h12, (tk_le hiL hk4).2⟩) (fun v2 h1 h2 => ⟨rfl, v2, h1, h2, rfl⟩)) dX7_readLine_182 wm_X7_125 ⟨wM_X7_reads, wV_X7_reads⟩ rfl (T_recv (by decide) (by decide)) rfl rfl (Nat.le_of_ble_eq_true rfl) rfl (fun r h1 hq1 => ?_)
            obtain ⟨rfl, v2, hA2, hx2, rfl⟩ := hq1
            refine J_vret dX7_readLine_185 rfl ?_
            exact hq v2 hA2 hx2
      · have hy : bnd (Sum.inr i) (tMark t L) = .inl (2, tb t L i) := tMark_n hk4 hk3
        refine J_aload_n (i := 0) (n := 157) dX7_readLine_156 rfl rfl rfl ?_
        refine T_get (k := 16) (n := 160) wk_X7 dX7_readLine_157 wf_X7_79 (by decide) (by decide) rfl rfl ?_
        refine J_if_ne (tgt := 181) (n := 163) dX7_readLine_160 (by decide) rfl (fun c_160 => ?_) (fun c_160 => ?_)
        · exact absurd (show v.2.1 16 = 0 from h16) c_160
        · refine J_aload_n (i := 0) (n := 164) dX7_readLine_163 rfl rfl rfl ?_
          refine J_aload_n (i := 0) (n := 165) dX7_readLine_164 rfl rfl rfl ?_
          refine T_get (k := 14) (n := 168) wk_X7 dX7_readLine_165 wf_X7_103 (by decide) (by decide) rfl rfl ?_
          rw [h14]
          refine J_iconst (n := 169) dX7_readLine_168 kI_3 rfl ?_
          refine J_icmp_ne (tgt := 176) (n := 172) dX7_readLine_169 (by decide) rfl (fun c_169 => ?_) (fun c_169 => ?_)
          · refine J_iconst (n := 177) dX7_readLine_176 kI_0 rfl ?_
            refine J_iconst (n := 178) dX7_readLine_177 kI_2 rfl ?_
            refine J_callVv (n := 181) wS_X7_requires (c_M_requires (d + 5) false (nI 2) ⟨rfl, rfl⟩) dX7_readLine_178 wm_X7_117 ⟨wM_X7_requires, wV_X7_requires⟩ rfl (T_recv (by decide) (by decide)) rfl rfl (Nat.le_of_ble_eq_true rfl) rfl ?_
            rw [rqv_n _ (show v.2.1 16 = 0 from h16), h13]
            refine J_aload_n (i := 0) (n := 182) dX7_readLine_181 rfl rfl rfl ?_
            refine J_callVx (n := 185) wS_X7_reads (c_M_reads (Q := fun r h => r = none ∧ ∃ v2, mA (gs_f (gs_f v 16 (nI 2)) 17 (nI (tb t L i))) v2 [12, 13, 14, 15, 16, 17] ∧ mst v2 t L (bnd (Sum.inr i) (tMark t L)) ∧ h = hp G (gs_set σ 7 0 v2)) (d + 3) ht ((((mA.rf v [12, 13, 14, 15, 16, 17]).f _ (by decide)).f _ (by decide)).tp (by decide) htp) (by rw [hy]; exact ⟨by rw [gsf_n _ _ (by decide)]; exact gsf_s _ _ _, gsf_s _ _ _, by show 1 ≤ 2; omega, by show 2 ≤ 5; omega⟩) (fun v2 h1 h2 => ⟨rfl, v2, h1, h2, rfl⟩)) dX7_readLine_182 wm_X7_125 ⟨wM_X7_reads, wV_X7_reads⟩ rfl (T_recv (by decide) (by decide)) rfl rfl (Nat.le_of_ble_eq_true rfl) rfl (fun r h1 hq1 => ?_)
            obtain ⟨rfl, v2, hA2, hx2, rfl⟩ := hq1
            refine J_vret dX7_readLine_185 rfl ?_
            exact hq v2 ((((mA.rf v [12, 13, 14, 15, 16, 17]).f _ (by decide)).f _ (by decide)).tr hA2) hx2
          · exact absurd c_169 (nI_ne hk3 (by omega) (by decide))

set_option maxHeartbeats 4000000 in
set_option maxRecDepth 100000 in
theorem j_rl_139 {G : gx_G} {σ : gs_S} {Q : Option Value → gx_Hp → Prop} (d : Nat) {v : gs_Ob} {D : pw} {w n : Nat} {t : Nat → Nat} {L : Nat} (ht : tOk t L) (hw7 : w < 7) (htp : mtp v t L) (hx : msx v L (.inr n)) (hD : mDr v D) (hg4 : D.2.2 6 ≤ 4) (hc6 : D.2.2 7 ≤ 6) (hpf : ∀ g, D.2.1 g = false) (h6 : w = 4 → v.2.1 6 = nI 0) (h7 : w = 5 → D.2.2 7 = 0) (hg : w < 4 → D.2.2 6 < 4) (hq : ∀ v1, mB v v1 [5, 6, 12, 13, 14, 15, 16, 17] → mst v1 t L (fst2 (bm t L (tOf t L D w n))) → (∀ x, (bm t L (tOf t L D w n)) = .inr x → mDr v1 x.2) → (¬ w = 4 → v1.2.1 6 = v.2.1 6) → Q none (hp G (gs_set σ 7 0 v1))) : gx_J G mX7_readLine (d + 6) 0 0 Q 139 [(0, .ref (gs_a G 7 0 0)), (1, .int (nI w))] [] (hp G (gs_set σ 7 0 v)) := by
  refine J_aload_n (i := 0) (n := 140) dX7_readLine_139 rfl rfl rfl ?_
  refine J_callVx (n := 143) wS_X7_reads (c_M_reads (Q := fun r h => r = none ∧ ∃ v2, mA v v2 [12, 13, 14, 15, 16, 17] ∧ mst v2 t L (.inr n) ∧ h = hp G (gs_set σ 7 0 v2)) (d + 3) ht htp hx (fun v2 h1 h2 => ⟨rfl, v2, h1, h2, rfl⟩)) dX7_readLine_140 wm_X7_125 ⟨wM_X7_reads, wV_X7_reads⟩ rfl (T_recv (by decide) (by decide)) rfl rfl (Nat.le_of_ble_eq_true rfl) rfl (fun r h1 hq1 => ?_)
  obtain ⟨rfl, v2, hA2, hx2, rfl⟩ := hq1
  refine J_aload_n (i := 0) (n := 144) dX7_readLine_143 rfl rfl rfl ?_
  refine T_get (k := 16) (n := 147) wk_X7 dX7_readLine_144 wf_X7_79 (by decide) (by decide) rfl rfl ?_
  refine J_if_le (tgt := 151) (n := 150) dX7_readLine_147 (by decide) rfl (fun c_147 => ?_) (fun c_147 => ?_)
  · refine J_aload_n (i := 0) (n := 152) dX7_readLine_151 rfl rfl rfl ?_
    refine J_iload_n (i := 1) (n := 153) dX7_readLine_152 rfl rfl rfl ?_
    refine J_callVx (n := 156) wS_X7_readLineOf (c_M_readLineOf (Q := fun r h => r = none ∧ ∃ v3, mB v2 v3 [5, 6, 12, 13, 14, 15, 16, 17] ∧ mst v3 t L (fst2 (tOf t L D w n)) ∧ (∀ x, tOf t L D w n = .inr x → mDr v3 x.2) ∧ (¬ w = 4 → v3.2.1 6 = v2.2.1 6) ∧ h = hp G (gs_set σ 7 0 v3)) d ht hw7 (hA2.tp (by decide) htp) hx2 (hD.of (by rw [hA2.1]) (hA2.2 5 (by decide))) hg4 hc6 hpf (fun q => by rw [hA2.2 6 (by decide)]; exact h6 q) h7 hg (fun v3 h1 h2 h3 h5 => ⟨rfl, v3, h1, h2, h3, h5, rfl⟩)) dX7_readLine_153 wm_X7_145 ⟨wM_X7_readLineOf, wV_X7_readLineOf⟩ rfl (T_recv (by decide) (by decide)) rfl rfl (Nat.le_of_ble_eq_true rfl) rfl (fun r h1 hq1 => ?_)
    obtain ⟨rfl, v3, hB3, hx3, hd3, hs3, rfl⟩ := hq1
    refine j_rl_156 d ht (hB3.tp (by decide) (hA2.tp (by decide) htp)) hx3 (fun v4 hA4 hx4 => ?_)
    refine hq v4 (((hA2.b (by decide)).tr hB3).tr (hA4.b (by decide))) (by rw [bm_fst]; exact hx4) (fun x hx0 => ?_) (fun q => by rw [hA4.2 6 (by decide), hs3 q, hA2.2 6 (by decide)])
    unfold bm at hx0
    cases hT : tOf t L D w n with
    | inl e => rw [hT] at hx0; cases hx0
    | inr y =>
      rw [hT] at hx0
      have hx0 : bnd (tMark t L y.1) (fun n1 => Sum.inr (n1, y.2)) = Sum.inr x := hx0
      cases hM : tMark t L y.1 with
      | inl e => rw [hM] at hx0; cases hx0
      | inr n1 =>
        rw [hM] at hx0
        cases hx0
        exact (hd3 y hT).of (by rw [hA4.1]) (hA4.2 5 (by decide))
  · refine J_vret dX7_readLine_150 rfl ?_
    have hk4 : (tk t L n).1 = 4 := by
      by_cases hk4 : (tk t L n).1 = 4
      · exact hk4
      · exfalso
        have h16 := (mtk_n hx2.1 hk4).1
        exact c_147 (by rw [h16]; decide +kernel)
    have hT := tOf_4 (w := w) (D := D) hk4
    refine hq v2 (hA2.b (by decide)) ?_ (fun x hx0 => ?_) (fun _ => hA2.2 6 (by decide))
    · rw [hT]
      exact mtk_4 hx2.1 hk4
    · rw [hT] at hx0; cases hx0
theorem tdn_s (td : Nat → Bool) (w : Nat) : tdn td w w = true := if_pos rfl
theorem tdn_n {td : Nat → Bool} {w q : Nat} (h : ¬ q = w) : tdn td w q = td q := if_neg h
theorem tdn_b {td : Nat → Bool} {w q : Nat} (hw : w ≤ 7) (hq : q < 7) (h : wI w = nI q) : tdn td w q = true := by rw [(wI_eq hw hq).mp h]; exact tdn_s td q
theorem tdn_c {td : Nat → Bool} {w q : Nat} (hw : w ≤ 7) (hq : q < 7) (h : ¬ wI w = nI q) : tdn td w q = td q := tdn_n (fun e => h ((wI_eq hw hq).mpr e.symm))
theorem tdn_t {td : Nat → Bool} {w q : Nat} (h : td q = true) : tdn td w q = true := by
  unfold tdn
  split
  · rfl
  · exact h
theorem nb_p (b : Bool) : ¬ nI b.toNat = 0 ↔ b = true := nb_t b
set_option maxHeartbeats 4000000 in
set_option maxRecDepth 100000 in
theorem j_rl_75 {G : gx_G} {σ : gs_S} {Q : Option Value → gx_Hp → Prop} (d : Nat) {v : gs_Ob} {td : Nat → Bool} {w : Nat}  (hw : w ≤ 7) (hf : mfl v td) (k139 : ∀ v1, mA v v1 [7, 8, 9] → mfl v1 (tdn td w) → gx_J G mX7_readLine (d + 6) 0 0 Q 139 [(0, .ref (gs_a G 7 0 0)), (1, .int (wI w))] [] (hp G (gs_set σ 7 0 v1))) : gx_J G mX7_readLine (d + 6) 0 0 Q 75 [(0, .ref (gs_a G 7 0 0)), (1, .int (wI w))] [] (hp G (gs_set σ 7 0 v)) := by
  have k117 : ∀ v1, mA v v1 [7, 8, 9] → v1.2.1 7 = nI (tdn td w 4).toNat → v1.2.1 8 = nI (tdn td w 5).toNat → v1.2.1 9 = nI (td 6).toNat → gx_J G mX7_readLine (d + 6) 0 0 Q 117 [(0, .ref (gs_a G 7 0 0)), (1, .int (wI w))] [] (hp G (gs_set σ 7 0 v1)) := by
    intro v1 hA z7 z8 y9
    refine J_aload_n (i := 0) (n := 118) dX7_readLine_117 rfl rfl rfl ?_
    refine J_aload_n (i := 0) (n := 119) dX7_readLine_118 rfl rfl rfl ?_
    refine T_get (k := 9) (n := 122) wk_X7 dX7_readLine_119 wf_X7_64 (by decide) (by decide) rfl rfl ?_
    rw [y9]
    refine J_if_ne (tgt := 131) (n := 125) dX7_readLine_122 (by decide) rfl (fun c_122 => ?_) (fun c_122 => ?_)
    · refine J_iconst (n := 132) dX7_readLine_131 kI_1 rfl ?_
      refine J_goto (tgt := 136) dX7_readLine_132 (by decide) ?_
      refine T_putI (k := 9) (n := 139) wk_X7 dX7_readLine_136 wf_X7_64 (by decide) (by decide) (by first | exact kN_0 | exact kN_1) rfl (Nat.le_of_ble_eq_true rfl) rfl rfl ?_
      first
      | exact k139 _ (hA.f _ (by decide)) ⟨(by rw [gsf_n _ _ (by decide)]; exact z7), (by rw [gsf_n _ _ (by decide)]; exact z8), (by rw [gsf_s, tdn_t (q := 6) ((nb_t _).mp c_122)]; rfl)⟩
      | exact k139 _ (hA.f _ (by decide)) ⟨(by rw [gsf_n _ _ (by decide)]; exact z7), (by rw [gsf_n _ _ (by decide)]; exact z8), (by rw [gsf_s, tdn_b hw (by decide) (show wI w = nI 6 from c_128)]; rfl)⟩
      | exact k139 _ (hA.f _ (by decide)) ⟨(by rw [gsf_n _ _ (by decide)]; exact z7), (by rw [gsf_n _ _ (by decide)]; exact z8), (by rw [gsf_s, tdn_c hw (by decide) (show ¬ wI w = nI 6 from c_128), (nb_0 _).mp c_122]; rfl)⟩
    · refine J_iload_n (i := 1) (n := 126) dX7_readLine_125 rfl rfl rfl ?_
      refine J_bipush (n := 128) dX7_readLine_126 kB_6 rfl ?_
      refine J_icmp_ne (tgt := 135) (n := 131) dX7_readLine_128 (by decide) rfl (fun c_128 => ?_) (fun c_128 => ?_)
      · refine J_iconst (n := 136) dX7_readLine_135 kI_0 rfl ?_
        refine T_putI (k := 9) (n := 139) wk_X7 dX7_readLine_136 wf_X7_64 (by decide) (by decide) (by first | exact kN_0 | exact kN_1) rfl (Nat.le_of_ble_eq_true rfl) rfl rfl ?_
        first
        | exact k139 _ (hA.f _ (by decide)) ⟨(by rw [gsf_n _ _ (by decide)]; exact z7), (by rw [gsf_n _ _ (by decide)]; exact z8), (by rw [gsf_s, tdn_t (q := 6) ((nb_t _).mp c_122)]; rfl)⟩
        | exact k139 _ (hA.f _ (by decide)) ⟨(by rw [gsf_n _ _ (by decide)]; exact z7), (by rw [gsf_n _ _ (by decide)]; exact z8), (by rw [gsf_s, tdn_b hw (by decide) (show wI w = nI 6 from c_128)]; rfl)⟩
        | exact k139 _ (hA.f _ (by decide)) ⟨(by rw [gsf_n _ _ (by decide)]; exact z7), (by rw [gsf_n _ _ (by decide)]; exact z8), (by rw [gsf_s, tdn_c hw (by decide) (show ¬ wI w = nI 6 from c_128), (nb_0 _).mp c_122]; rfl)⟩
      · refine J_iconst (n := 132) dX7_readLine_131 kI_1 rfl ?_
        refine J_goto (tgt := 136) dX7_readLine_132 (by decide) ?_
        refine T_putI (k := 9) (n := 139) wk_X7 dX7_readLine_136 wf_X7_64 (by decide) (by decide) (by first | exact kN_0 | exact kN_1) rfl (Nat.le_of_ble_eq_true rfl) rfl rfl ?_
        first
        | exact k139 _ (hA.f _ (by decide)) ⟨(by rw [gsf_n _ _ (by decide)]; exact z7), (by rw [gsf_n _ _ (by decide)]; exact z8), (by rw [gsf_s, tdn_t (q := 6) ((nb_t _).mp c_122)]; rfl)⟩
        | exact k139 _ (hA.f _ (by decide)) ⟨(by rw [gsf_n _ _ (by decide)]; exact z7), (by rw [gsf_n _ _ (by decide)]; exact z8), (by rw [gsf_s, tdn_b hw (by decide) (show wI w = nI 6 from c_128)]; rfl)⟩
        | exact k139 _ (hA.f _ (by decide)) ⟨(by rw [gsf_n _ _ (by decide)]; exact z7), (by rw [gsf_n _ _ (by decide)]; exact z8), (by rw [gsf_s, tdn_c hw (by decide) (show ¬ wI w = nI 6 from c_128), (nb_0 _).mp c_122]; rfl)⟩
  have k96 : ∀ v1, mA v v1 [7, 8, 9] → v1.2.1 7 = nI (tdn td w 4).toNat → v1.2.1 8 = nI (td 5).toNat → v1.2.1 9 = nI (td 6).toNat → gx_J G mX7_readLine (d + 6) 0 0 Q 96 [(0, .ref (gs_a G 7 0 0)), (1, .int (wI w))] [] (hp G (gs_set σ 7 0 v1)) := by
    intro v1 hA z7 y8 y9
    refine J_aload_n (i := 0) (n := 97) dX7_readLine_96 rfl rfl rfl ?_
    refine J_aload_n (i := 0) (n := 98) dX7_readLine_97 rfl rfl rfl ?_
    refine T_get (k := 8) (n := 101) wk_X7 dX7_readLine_98 wf_X7_61 (by decide) (by decide) rfl rfl ?_
    rw [y8]
    refine J_if_ne (tgt := 109) (n := 104) dX7_readLine_101 (by decide) rfl (fun c_101 => ?_) (fun c_101 => ?_)
    · refine J_iconst (n := 110) dX7_readLine_109 kI_1 rfl ?_
      refine J_goto (tgt := 114) dX7_readLine_110 (by decide) ?_
      refine T_putI (k := 8) (n := 117) wk_X7 dX7_readLine_114 wf_X7_61 (by decide) (by decide) (by first | exact kN_0 | exact kN_1) rfl (Nat.le_of_ble_eq_true rfl) rfl rfl ?_
      first
      | exact k117 _ (hA.f _ (by decide)) (by rw [gsf_n _ _ (by decide)]; exact z7) (by rw [gsf_s, tdn_t (q := 5) ((nb_t _).mp c_101)]; rfl) (by rw [gsf_n _ _ (by decide)]; exact y9)
      | exact k117 _ (hA.f _ (by decide)) (by rw [gsf_n _ _ (by decide)]; exact z7) (by rw [gsf_s, tdn_b hw (by decide) (show wI w = nI 5 from c_106)]; rfl) (by rw [gsf_n _ _ (by decide)]; exact y9)
      | exact k117 _ (hA.f _ (by decide)) (by rw [gsf_n _ _ (by decide)]; exact z7) (by rw [gsf_s, tdn_c hw (by decide) (show ¬ wI w = nI 5 from c_106), (nb_0 _).mp c_101]; rfl) (by rw [gsf_n _ _ (by decide)]; exact y9)
    · refine J_iload_n (i := 1) (n := 105) dX7_readLine_104 rfl rfl rfl ?_
      refine J_iconst (n := 106) dX7_readLine_105 kI_5 rfl ?_
      refine J_icmp_ne (tgt := 113) (n := 109) dX7_readLine_106 (by decide) rfl (fun c_106 => ?_) (fun c_106 => ?_)
      · refine J_iconst (n := 114) dX7_readLine_113 kI_0 rfl ?_
        refine T_putI (k := 8) (n := 117) wk_X7 dX7_readLine_114 wf_X7_61 (by decide) (by decide) (by first | exact kN_0 | exact kN_1) rfl (Nat.le_of_ble_eq_true rfl) rfl rfl ?_
        first
        | exact k117 _ (hA.f _ (by decide)) (by rw [gsf_n _ _ (by decide)]; exact z7) (by rw [gsf_s, tdn_t (q := 5) ((nb_t _).mp c_101)]; rfl) (by rw [gsf_n _ _ (by decide)]; exact y9)
        | exact k117 _ (hA.f _ (by decide)) (by rw [gsf_n _ _ (by decide)]; exact z7) (by rw [gsf_s, tdn_b hw (by decide) (show wI w = nI 5 from c_106)]; rfl) (by rw [gsf_n _ _ (by decide)]; exact y9)
        | exact k117 _ (hA.f _ (by decide)) (by rw [gsf_n _ _ (by decide)]; exact z7) (by rw [gsf_s, tdn_c hw (by decide) (show ¬ wI w = nI 5 from c_106), (nb_0 _).mp c_101]; rfl) (by rw [gsf_n _ _ (by decide)]; exact y9)
      · refine J_iconst (n := 110) dX7_readLine_109 kI_1 rfl ?_
        refine J_goto (tgt := 114) dX7_readLine_110 (by decide) ?_
        refine T_putI (k := 8) (n := 117) wk_X7 dX7_readLine_114 wf_X7_61 (by decide) (by decide) (by first | exact kN_0 | exact kN_1) rfl (Nat.le_of_ble_eq_true rfl) rfl rfl ?_
        first
        | exact k117 _ (hA.f _ (by decide)) (by rw [gsf_n _ _ (by decide)]; exact z7) (by rw [gsf_s, tdn_t (q := 5) ((nb_t _).mp c_101)]; rfl) (by rw [gsf_n _ _ (by decide)]; exact y9)
        | exact k117 _ (hA.f _ (by decide)) (by rw [gsf_n _ _ (by decide)]; exact z7) (by rw [gsf_s, tdn_b hw (by decide) (show wI w = nI 5 from c_106)]; rfl) (by rw [gsf_n _ _ (by decide)]; exact y9)
        | exact k117 _ (hA.f _ (by decide)) (by rw [gsf_n _ _ (by decide)]; exact z7) (by rw [gsf_s, tdn_c hw (by decide) (show ¬ wI w = nI 5 from c_106), (nb_0 _).mp c_101]; rfl) (by rw [gsf_n _ _ (by decide)]; exact y9)
  obtain ⟨y7, y8, y9⟩ := hf
  have hA := mA.rf v [7, 8, 9]
  refine J_aload_n (i := 0) (n := 76) dX7_readLine_75 rfl rfl rfl ?_
  refine J_aload_n (i := 0) (n := 77) dX7_readLine_76 rfl rfl rfl ?_
  refine T_get (k := 7) (n := 80) wk_X7 dX7_readLine_77 wf_X7_57 (by decide) (by decide) rfl rfl ?_
  rw [y7]
  refine J_if_ne (tgt := 88) (n := 83) dX7_readLine_80 (by decide) rfl (fun c_80 => ?_) (fun c_80 => ?_)
  · refine J_iconst (n := 89) dX7_readLine_88 kI_1 rfl ?_
    refine J_goto (tgt := 93) dX7_readLine_89 (by decide) ?_
    refine T_putI (k := 7) (n := 96) wk_X7 dX7_readLine_93 wf_X7_57 (by decide) (by decide) (by first | exact kN_0 | exact kN_1) rfl (Nat.le_of_ble_eq_true rfl) rfl rfl ?_
    first
    | exact k96 _ (hA.f _ (by decide)) (by rw [gsf_s, tdn_t (q := 4) ((nb_t _).mp c_80)]; rfl) (by rw [gsf_n _ _ (by decide)]; exact y8) (by rw [gsf_n _ _ (by decide)]; exact y9)
    | exact k96 _ (hA.f _ (by decide)) (by rw [gsf_s, tdn_b hw (by decide) (show wI w = nI 4 from c_85)]; rfl) (by rw [gsf_n _ _ (by decide)]; exact y8) (by rw [gsf_n _ _ (by decide)]; exact y9)
    | exact k96 _ (hA.f _ (by decide)) (by rw [gsf_s, tdn_c hw (by decide) (show ¬ wI w = nI 4 from c_85), (nb_0 _).mp c_80]; rfl) (by rw [gsf_n _ _ (by decide)]; exact y8) (by rw [gsf_n _ _ (by decide)]; exact y9)
  · refine J_iload_n (i := 1) (n := 84) dX7_readLine_83 rfl rfl rfl ?_
    refine J_iconst (n := 85) dX7_readLine_84 kI_4 rfl ?_
    refine J_icmp_ne (tgt := 92) (n := 88) dX7_readLine_85 (by decide) rfl (fun c_85 => ?_) (fun c_85 => ?_)
    · refine J_iconst (n := 93) dX7_readLine_92 kI_0 rfl ?_
      refine T_putI (k := 7) (n := 96) wk_X7 dX7_readLine_93 wf_X7_57 (by decide) (by decide) (by first | exact kN_0 | exact kN_1) rfl (Nat.le_of_ble_eq_true rfl) rfl rfl ?_
      first
      | exact k96 _ (hA.f _ (by decide)) (by rw [gsf_s, tdn_t (q := 4) ((nb_t _).mp c_80)]; rfl) (by rw [gsf_n _ _ (by decide)]; exact y8) (by rw [gsf_n _ _ (by decide)]; exact y9)
      | exact k96 _ (hA.f _ (by decide)) (by rw [gsf_s, tdn_b hw (by decide) (show wI w = nI 4 from c_85)]; rfl) (by rw [gsf_n _ _ (by decide)]; exact y8) (by rw [gsf_n _ _ (by decide)]; exact y9)
      | exact k96 _ (hA.f _ (by decide)) (by rw [gsf_s, tdn_c hw (by decide) (show ¬ wI w = nI 4 from c_85), (nb_0 _).mp c_80]; rfl) (by rw [gsf_n _ _ (by decide)]; exact y8) (by rw [gsf_n _ _ (by decide)]; exact y9)
    · refine J_iconst (n := 89) dX7_readLine_88 kI_1 rfl ?_
      refine J_goto (tgt := 93) dX7_readLine_89 (by decide) ?_
      refine T_putI (k := 7) (n := 96) wk_X7 dX7_readLine_93 wf_X7_57 (by decide) (by decide) (by first | exact kN_0 | exact kN_1) rfl (Nat.le_of_ble_eq_true rfl) rfl rfl ?_
      first
      | exact k96 _ (hA.f _ (by decide)) (by rw [gsf_s, tdn_t (q := 4) ((nb_t _).mp c_80)]; rfl) (by rw [gsf_n _ _ (by decide)]; exact y8) (by rw [gsf_n _ _ (by decide)]; exact y9)
      | exact k96 _ (hA.f _ (by decide)) (by rw [gsf_s, tdn_b hw (by decide) (show wI w = nI 4 from c_85)]; rfl) (by rw [gsf_n _ _ (by decide)]; exact y8) (by rw [gsf_n _ _ (by decide)]; exact y9)
      | exact k96 _ (hA.f _ (by decide)) (by rw [gsf_s, tdn_c hw (by decide) (show ¬ wI w = nI 4 from c_85), (nb_0 _).mp c_80]; rfl) (by rw [gsf_n _ _ (by decide)]; exact y8) (by rw [gsf_n _ _ (by decide)]; exact y9)

