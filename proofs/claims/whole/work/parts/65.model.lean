def mDr (v : gs_Ob) (D : pw) : Prop := aR (v.1 4) D ∧ (∀ g, g < 4 → v.1 4 (12 + 4 * g + 3) = nI 0) ∧ v.1 4 38 = nI 0 ∧ v.2.1 5 = nI (D.2.2 6)
def dOk (D : pw) : Prop := pOk D ∧ (∀ g, D.2.1 g = false) ∧ D.2.2 9 = 0 ∧ D.2.2 10 = 0
theorem aR.fms {a b : Nat → Int32} {D : pw} {r : Nat → Nat} (h : aR a D) (h1 : ∀ q, q < 12 → b q = nI (r q)) (h2 : ∀ q, 12 ≤ q → b q = a q) : aR b (pw_r D 0 r) := by
  obtain ⟨a1, a2, a3, a4, a5, a6, a7⟩ := h
  refine ⟨h1, fun g hg => ?_, fun j hj => ?_, ?_, ?_, ?_, ?_⟩
  · rw [h2 _ (by omega), h2 _ (by omega), h2 _ (by omega), h2 _ (by omega)]; exact a2 g hg
  · rw [h2 _ (by omega)]; exact a3 j hj
  · rw [h2 _ (by omega)]; exact a4
  · rw [h2 _ (by omega)]; exact a5
  · rw [h2 _ (by omega)]; exact a6
  · rw [h2 _ (by omega)]; exact a7
theorem aR.rts {a b : Nat → Int32} {D : pw} {r : Nat → Nat} {j : Nat} (h : aR a D) (hg4 : D.2.2 6 ≤ 4) (hj : j ≤ 6) (h1 : ∀ q, q < j → b (30 + q) = nI (r q)) (h3 : b 29 = nI j) (h2 : ∀ q, q < 29 ∨ 36 ≤ q → b q = a q) : aR b (pw_f (pw_r D 4 r) 7 j) := by
  obtain ⟨a1, a2, a3, a4, a5, a6, a7⟩ := h
  refine ⟨fun q hq => ?_, fun g hg => ?_, fun q hq => ?_, ?_, h3, ?_, ?_⟩
  · rw [h2 _ (by omega)]; exact a1 q hq
  · have hg : g < D.2.2 6 := hg
    rw [h2 _ (by omega), h2 _ (by omega), h2 _ (by omega), h2 _ (by omega)]; exact a2 g hg
  · exact h1 q hq
  · rw [h2 _ (by omega)]; exact a4
  · rw [h2 _ (by omega)]; exact a6
  · rw [h2 _ (by omega)]; exact a7
theorem aR.glv {a : Nat → Int32} {D : pw} {k e w : Nat} (h : aR a D) (hg4 : D.2.2 6 < 4) (h7 : D.2.2 7 ≤ 6) (hz : a (12 + 4 * D.2.2 6 + 3) = nI 0) (hp : ∀ g, D.2.1 g = false) : aR (upd (upd (upd a (12 + 4 * D.2.2 6 + 0) (nI k)) (12 + 4 * D.2.2 6 + 1) (nI e)) (12 + 4 * D.2.2 6 + 2) (nI w)) (pw_gl D k e w) := by
  obtain ⟨a1, a2, a3, a4, a5, a6, a7⟩ := h
  have un : ∀ q, q < 12 + 4 * D.2.2 6 ∨ 12 + 4 * D.2.2 6 + 3 ≤ q → upd (upd (upd a (12 + 4 * D.2.2 6 + 0) (nI k)) (12 + 4 * D.2.2 6 + 1) (nI e)) (12 + 4 * D.2.2 6 + 2) (nI w) q = a q := fun q hq => by rw [pk_un (by omega), pk_un (by omega), pk_un (by omega)]
  refine ⟨fun q hq => ?_, fun g hg => ?_, fun q hq => ?_, ?_, ?_, ?_, ?_⟩
  · rw [un q (by omega)]; exact a1 q hq
  · have hg : g < D.2.2 6 + 1 := hg
    by_cases eg : g = D.2.2 6
    · subst eg
      refine ⟨?_, fun _ => ?_, ?_, ?_⟩
      · rw [pk_un (by omega), pk_un (by omega), pk_us]; simp [pw_gl, pw_f, pw_a]
      · rw [pk_un (by omega), pk_us]; simp [pw_gl, pw_f, pw_a]
      · rw [pk_us]; simp [pw_gl, pw_f, pw_a]
      · rw [un _ (by omega), hz]
        show nI 0 = nI (D.2.1 (D.2.2 6)).toNat
        rw [hp]; rfl
    · rw [un _ (by omega), un _ (by omega), un _ (by omega), un _ (by omega)]
      have h0 := a2 g (by omega)
      simp only [pw_gl, pw_f, pw_a]
      simp only [eg, and_false, if_false]
      exact h0
  · rw [un _ (by omega)]
    have hq : q < D.2.2 7 := hq
    have h0 := a3 q hq
    simp only [pw_gl, pw_f, pw_a]
    simp only [show ¬ (4 : Nat) = 3 by decide, show ¬ (4 : Nat) = 2 by decide, show ¬ (4 : Nat) = 1 by decide, false_and, if_false]
    exact h0
  · rw [un _ (by omega)]; exact a4
  · rw [un _ (by omega)]; exact a5
  · rw [un _ (by omega)]; exact a6
  · rw [un _ (by omega)]; exact a7
theorem mDr.of {v w : gs_Ob} {D : pw} (h : mDr v D) (h1 : w.1 4 = v.1 4) (h2 : w.2.1 5 = v.2.1 5) : mDr w D := by
  unfold mDr
  rw [h1, h2]; exact h
def fst2 (y : pE ⊕ (Nat × pw)) : pE ⊕ Nat := bnd y fun x => .inr x.1
set_option maxHeartbeats 4000000 in
set_option maxRecDepth 100000 in
theorem c_M_readLineOf {G : gx_G} {σ : gs_S} {Q : Option Value → gx_Hp → Prop} (d : Nat) {v : gs_Ob} {D : pw} {w n : Nat} {t : Nat → Nat} {L : Nat} (ht : tOk t L) (hw7 : w < 7) (htp : mtp v t L) (hx : mst v t L (.inr n)) (hD : mDr v D) (hg4 : D.2.2 6 ≤ 4) (hc6 : D.2.2 7 ≤ 6) (hpf : ∀ g, D.2.1 g = false) (h6 : w = 4 → v.2.1 6 = nI 0) (h7 : w = 5 → D.2.2 7 = 0) (hg : w < 4 → D.2.2 6 < 4) (hq : ∀ v1, mB v v1 [5, 6, 12, 13, 14, 15, 16, 17] → mst v1 t L (fst2 (tOf t L D w n)) → (∀ x, (tOf t L D w n) = .inr x → mDr v1 x.2) → (¬ w = 4 → v1.2.1 6 = v.2.1 6) → Q none (hp G (gs_set σ 7 0 v1))) : gx_K G yX7_readLineOf mX7_readLineOf (d + 5) 0 0 [.ref (gs_a G 7 0 0), .int (nI w)] (hp G (gs_set σ 7 0 v)) Q := by
  refine gx_K.of' (lv := [(0, _), (1, _)]) (by decide) rfl (by decide) (Nat.le_of_ble_eq_true rfl) rfl ?_
  refine J_iload_n (i := 1) (n := 1) dX7_readLineOf_0 rfl rfl rfl ?_
  by_cases e_1_4 : nI w = 4
  · rw [e_1_4]
    refine J_tableIn (off := 27) (tgt := 28) dX7_readLineOf_1 (by decide) (by decide) (by decide) (by decide) ?_
    have ew : w = 4 := (nI_eq (by omega) (by decide)).mp e_1_4
    have hfam : gx_K G yX7_readFames mX7_readFames (d + 4) 0 0 [.ref (gs_a G 7 0 0)] (hp G (gs_set σ 7 0 v)) (fun r h => r = none ∧ ∃ v1, mB v v1 [5, 6, 12, 13, 14, 15, 16, 17] ∧ mst v1 t L (fst2 (tFam t L D n)) ∧ (∀ x, tFam t L D n = .inr x → mDr v1 x.2) ∧ h = hp G (gs_set σ 7 0 v1)) := by
      refine c_M_readFames d ht htp hx ⟨hD.1.1, h6 ew⟩ (fun v1 b1 b2 b3 b4 => ⟨rfl, v1, b1.sub (by decide), ?_, fun x hx0 => ?_, rfl⟩)
      · unfold tFam fst2
        cases hT : tNums t L 9 12 13 n 0 (D.1 0) with
        | inl e => rw [hT] at b3; exact b3
        | inr x => rw [hT] at b3; exact b3
      · unfold tFam at hx0
        cases hT : tNums t L 9 12 13 n 0 (D.1 0) with
        | inl e => rw [hT] at hx0; cases hx0
        | inr y =>
          rw [hT] at hx0
          cases hx0
          have b4 := b4 y hT
          refine ⟨hD.1.fms b4.1 b2, fun g hg => ?_, ?_, ?_⟩
          · rw [b2 _ (by omega)]; exact hD.2.1 g hg
          · rw [b2 _ (by omega)]; exact hD.2.2.1
          · rw [b1.2 5 (by decide)]; exact hD.2.2.2
    refine J_aload_n (i := 0) (n := 29) dX7_readLineOf_28 rfl rfl rfl ?_
    refine J_callVx (n := 32) wS_X7_readFames (hfam) dX7_readLineOf_29 wm_X7_131 ⟨wM_X7_readFames, wV_X7_readFames⟩ rfl (T_recv (by decide) (by decide)) rfl rfl (Nat.le_of_ble_eq_true rfl) rfl (fun r h1 hq1 => ?_)
    obtain ⟨rfl, v1, b1, b2, b3, rfl⟩ := hq1
    refine J_goto (tgt := 132) dX7_readLineOf_32 (by decide) ?_
    refine J_vret dX7_readLineOf_132 rfl ?_
    first
    | (have hX : tOf t L D w n = tFam t L D n := if_pos ew
       rw [hX] at hq
       exact hq v1 b1 b2 b3 (fun q => absurd ew q))
    | (have hX : tOf t L D w n = tRou t L D n := (if_neg (by omega)).trans (if_pos (by assumption))
       rw [hX] at hq
       exact hq v1 b1 b2 b3 (fun _ => b6))
    | (have hX : tOf t L D w n = tMan t L D n := (if_neg (by omega)).trans ((if_neg (by omega)).trans (if_pos ew))
       rw [hX] at hq
       refine hq _ (((hA2.b (by decide))).w _) ?_ (fun x hx0 => ?_) (fun _ => hA2.2 6 (by decide))
       · have hx5 : mst (gs_w v2 4 (upd (v2.1 4) 28 (nmv (bnd (Sum.inr n) (tNum t L 11))))) t L (fs (bnd (Sum.inr n) (tNum t L 11))) := hx2.same (fun _ _ _ => rfl)
         unfold tMan fst2
         cases hT : tNum t L 11 n with
         | inl e => rw [show bnd (Sum.inr n) (tNum t L 11) = .inl e from hT] at hx5 ⊢; exact hx5
         | inr y => rw [show bnd (Sum.inr n) (tNum t L 11) = .inr y from hT] at hx5 ⊢; exact hx5
       · unfold tMan at hx0
         cases hT : tNum t L 11 n with
         | inl e => rw [hT] at hx0; cases hx0
         | inr y =>
           rw [hT] at hx0
           cases hx0
           rw [show bnd (Sum.inr n) (tNum t L 11) = .inr y from hT]
           have h4a : v2.1 4 = v.1 4 := by rw [hA2.1]
           refine ⟨?_, fun g hg0 => ?_, ?_, ?_⟩
           · rw [gs_wk, h4a]; exact hD.1.num ⟨hg4, hc6⟩ (i := 28) (k := 8) y.2 (by omega)
           · rw [gs_wk, pk_un (by omega), h4a]; exact hD.2.1 g hg0
           · rw [gs_wk, pk_un (by omega), h4a]; exact hD.2.2.1
           · show v2.2.1 5 = _; rw [hA2.2 5 (by decide)]; exact hD.2.2.2)
    | (have hX : tOf t L D w n = tGlv t L D w n := (if_neg (by omega)).trans ((if_neg (by omega)).trans (if_neg (by omega)))
       rw [hX] at hq
       refine hq _ (((hB3.tr (hA4.b (by decide))).w _).f _ (by decide)) ?_ (fun x hx0 => ?_) (fun _ => by rw [gsf_n _ _ (by decide)]; show v4.2.1 6 = _; rw [hA4.2 6 (by decide)]; exact hA2.2 6 (by decide))
       · have hx5 : mst (gs_f (gs_w v4 4 (upd (v4.1 4) (12 + 4 * D.2.2 6 + 2) (nmv (bnd (fs (bnd (Sum.inr n) (tNum t L 11))) (tNum t L 20))))) 5 (nI (D.2.2 6 + 1))) t L (fs (bnd (fs (bnd (Sum.inr n) (tNum t L 11))) (tNum t L 20))) := hx4.same (fun k k1 k2 => gsf_n _ _ (by omega))
         unfold tGlv fst2
         cases hT : tNum t L 11 n with
         | inl e => rw [show bnd (Sum.inr n) (tNum t L 11) = .inl e from hT] at hx5 ⊢; exact hx5
         | inr y =>
           rw [show bnd (Sum.inr n) (tNum t L 11) = .inr y from hT] at hx5 ⊢
           cases hT2 : tNum t L 20 y.1 with
           | inl e => rw [show bnd (fs (Sum.inr y)) (tNum t L 20) = .inl e from hT2] at hx5 ⊢; rw [show bnd (Sum.inr y) (fun x => bnd (tNum t L 20 x.1) fun z => Sum.inr (z.1, pw_gl D w x.2 z.2)) = .inl e from by show bnd (tNum t L 20 y.1) _ = _; rw [hT2]; rfl]; exact hx5
           | inr z => rw [show bnd (fs (Sum.inr y)) (tNum t L 20) = .inr z from hT2] at hx5 ⊢; rw [show bnd (Sum.inr y) (fun x => bnd (tNum t L 20 x.1) fun z => Sum.inr (z.1, pw_gl D w x.2 z.2)) = .inr (z.1, pw_gl D w y.2 z.2) from by show bnd (tNum t L 20 y.1) _ = _; rw [hT2]; rfl]; exact hx5
       · unfold tGlv at hx0
         cases hT : tNum t L 11 n with
         | inl e => rw [hT] at hx0; cases hx0
         | inr y =>
           rw [hT] at hx0
           have hx0 : bnd (tNum t L 20 y.1) (fun z => Sum.inr (z.1, pw_gl D w y.2 z.2)) = Sum.inr x := hx0
           cases hT2 : tNum t L 20 y.1 with
           | inl e => rw [hT2] at hx0; cases hx0
           | inr z =>
             rw [hT2] at hx0
             cases hx0
             rw [show bnd (Sum.inr n) (tNum t L 11) = .inr y from hT] at hA4 ⊢
             rw [show bnd (fs (Sum.inr y)) (tNum t L 20) = .inr z from hT2]
             have e2 : v2.1 4 = upd (v.1 4) (12 + 4 * D.2.2 6 + 0) (nI w) := by rw [hA2.1, gs_wk]
             have e4 : v4.1 4 = upd (upd (v.1 4) (12 + 4 * D.2.2 6 + 0) (nI w)) (12 + 4 * D.2.2 6 + 1) (nI y.2) := by rw [hA4.1, gs_wk, e2]; rfl
             have e5 : (gs_f (gs_w v4 4 (upd (v4.1 4) (12 + 4 * D.2.2 6 + 2) (nmv (Sum.inr z)))) 5 (nI (D.2.2 6 + 1))).1 4 = upd (upd (upd (v.1 4) (12 + 4 * D.2.2 6 + 0) (nI w)) (12 + 4 * D.2.2 6 + 1) (nI y.2)) (12 + 4 * D.2.2 6 + 2) (nI z.2) := by rw [gfw, e4]; rfl
             refine ⟨?_, fun g hg0 => ?_, ?_, ?_⟩
             · rw [e5]; exact hD.1.glv hgl hc6 (hD.2.1 _ hgl) hpf
             · rw [e5, pk_un (by omega), pk_un (by omega), pk_un (by omega)]; exact hD.2.1 g hg0
             · rw [e5, pk_un (by omega), pk_un (by omega), pk_un (by omega)]; exact hD.2.2.1
             · exact gsf_s _ _ _)
  by_cases e_1_5 : nI w = 5
  · rw [e_1_5]
    refine J_tableIn (off := 34) (tgt := 35) dX7_readLineOf_1 (by decide) (by decide) (by decide) (by decide) ?_
    have ew : w = 5 := (nI_eq (by omega) (by decide)).mp e_1_5
    have hrou : gx_K G yX7_readRoute mX7_readRoute (d + 4) 0 0 [.ref (gs_a G 7 0 0)] (hp G (gs_set σ 7 0 v)) (fun r h => r = none ∧ ∃ v1, mB v v1 [5, 6, 12, 13, 14, 15, 16, 17] ∧ mst v1 t L (fst2 (tRou t L D n)) ∧ (∀ x, tRou t L D n = .inr x → mDr v1 x.2) ∧ v1.2.1 6 = v.2.1 6 ∧ h = hp G (gs_set σ 7 0 v1)) := by
      refine c_M_readRoute (r0 := D.1 4) d ht htp hx ⟨fun q hq0 => absurd hq0 (Nat.not_lt_zero _), by rw [hD.1.2.2.2.2.1, h7 ew], Nat.zero_le _⟩ (fun v1 b1 b2 b3 b4 => ⟨rfl, v1, b1.sub (by decide), ?_, fun x hx0 => ?_, b1.2 6 (by decide), rfl⟩)
      · unfold tRou fst2
        cases hT : tNums t L 11 6 7 n 0 (D.1 4) with
        | inl e => rw [hT] at b3; exact b3
        | inr x => rw [hT] at b3; exact b3
      · unfold tRou at hx0
        cases hT : tNums t L 11 6 7 n 0 (D.1 4) with
        | inl e => rw [hT] at hx0; cases hx0
        | inr y =>
          rw [hT] at hx0
          cases hx0
          have b4 := b4 y hT
          refine ⟨hD.1.rts hg4 b4.2.2 b4.1 b4.2.1 b2, fun g hg => ?_, ?_, ?_⟩
          · rw [b2 _ (by omega)]; exact hD.2.1 g hg
          · rw [b2 _ (by omega)]; exact hD.2.2.1
          · rw [b1.2 5 (by decide)]; exact hD.2.2.2
    refine J_aload_n (i := 0) (n := 36) dX7_readLineOf_35 rfl rfl rfl ?_
    refine J_callVx (n := 39) wS_X7_readRoute (hrou) dX7_readLineOf_36 wm_X7_134 ⟨wM_X7_readRoute, wV_X7_readRoute⟩ rfl (T_recv (by decide) (by decide)) rfl rfl (Nat.le_of_ble_eq_true rfl) rfl (fun r h1 hq1 => ?_)
    obtain ⟨rfl, v1, b1, b2, b3, b6, rfl⟩ := hq1
    refine J_goto (tgt := 132) dX7_readLineOf_39 (by decide) ?_
    refine J_vret dX7_readLineOf_132 rfl ?_
    first
    | (have hX : tOf t L D w n = tFam t L D n := if_pos ew
       rw [hX] at hq
       exact hq v1 b1 b2 b3 (fun q => absurd ew q))
    | (have hX : tOf t L D w n = tRou t L D n := (if_neg (by omega)).trans (if_pos (by assumption))
       rw [hX] at hq
       exact hq v1 b1 b2 b3 (fun _ => b6))
    | (have hX : tOf t L D w n = tMan t L D n := (if_neg (by omega)).trans ((if_neg (by omega)).trans (if_pos ew))
       rw [hX] at hq
       refine hq _ (((hA2.b (by decide))).w _) ?_ (fun x hx0 => ?_) (fun _ => hA2.2 6 (by decide))
       · have hx5 : mst (gs_w v2 4 (upd (v2.1 4) 28 (nmv (bnd (Sum.inr n) (tNum t L 11))))) t L (fs (bnd (Sum.inr n) (tNum t L 11))) := hx2.same (fun _ _ _ => rfl)
         unfold tMan fst2
         cases hT : tNum t L 11 n with
         | inl e => rw [show bnd (Sum.inr n) (tNum t L 11) = .inl e from hT] at hx5 ⊢; exact hx5
         | inr y => rw [show bnd (Sum.inr n) (tNum t L 11) = .inr y from hT] at hx5 ⊢; exact hx5
       · unfold tMan at hx0
         cases hT : tNum t L 11 n with
         | inl e => rw [hT] at hx0; cases hx0
         | inr y =>
           rw [hT] at hx0
           cases hx0
           rw [show bnd (Sum.inr n) (tNum t L 11) = .inr y from hT]
           have h4a : v2.1 4 = v.1 4 := by rw [hA2.1]
           refine ⟨?_, fun g hg0 => ?_, ?_, ?_⟩
           · rw [gs_wk, h4a]; exact hD.1.num ⟨hg4, hc6⟩ (i := 28) (k := 8) y.2 (by omega)
           · rw [gs_wk, pk_un (by omega), h4a]; exact hD.2.1 g hg0
           · rw [gs_wk, pk_un (by omega), h4a]; exact hD.2.2.1
           · show v2.2.1 5 = _; rw [hA2.2 5 (by decide)]; exact hD.2.2.2)
    | (have hX : tOf t L D w n = tGlv t L D w n := (if_neg (by omega)).trans ((if_neg (by omega)).trans (if_neg (by omega)))
       rw [hX] at hq
       refine hq _ (((hB3.tr (hA4.b (by decide))).w _).f _ (by decide)) ?_ (fun x hx0 => ?_) (fun _ => by rw [gsf_n _ _ (by decide)]; show v4.2.1 6 = _; rw [hA4.2 6 (by decide)]; exact hA2.2 6 (by decide))
       · have hx5 : mst (gs_f (gs_w v4 4 (upd (v4.1 4) (12 + 4 * D.2.2 6 + 2) (nmv (bnd (fs (bnd (Sum.inr n) (tNum t L 11))) (tNum t L 20))))) 5 (nI (D.2.2 6 + 1))) t L (fs (bnd (fs (bnd (Sum.inr n) (tNum t L 11))) (tNum t L 20))) := hx4.same (fun k k1 k2 => gsf_n _ _ (by omega))
         unfold tGlv fst2
         cases hT : tNum t L 11 n with
         | inl e => rw [show bnd (Sum.inr n) (tNum t L 11) = .inl e from hT] at hx5 ⊢; exact hx5
         | inr y =>
           rw [show bnd (Sum.inr n) (tNum t L 11) = .inr y from hT] at hx5 ⊢
           cases hT2 : tNum t L 20 y.1 with
           | inl e => rw [show bnd (fs (Sum.inr y)) (tNum t L 20) = .inl e from hT2] at hx5 ⊢; rw [show bnd (Sum.inr y) (fun x => bnd (tNum t L 20 x.1) fun z => Sum.inr (z.1, pw_gl D w x.2 z.2)) = .inl e from by show bnd (tNum t L 20 y.1) _ = _; rw [hT2]; rfl]; exact hx5
           | inr z => rw [show bnd (fs (Sum.inr y)) (tNum t L 20) = .inr z from hT2] at hx5 ⊢; rw [show bnd (Sum.inr y) (fun x => bnd (tNum t L 20 x.1) fun z => Sum.inr (z.1, pw_gl D w x.2 z.2)) = .inr (z.1, pw_gl D w y.2 z.2) from by show bnd (tNum t L 20 y.1) _ = _; rw [hT2]; rfl]; exact hx5
       · unfold tGlv at hx0
         cases hT : tNum t L 11 n with
         | inl e => rw [hT] at hx0; cases hx0
         | inr y =>
           rw [hT] at hx0
           have hx0 : bnd (tNum t L 20 y.1) (fun z => Sum.inr (z.1, pw_gl D w y.2 z.2)) = Sum.inr x := hx0
           cases hT2 : tNum t L 20 y.1 with
           | inl e => rw [hT2] at hx0; cases hx0
           | inr z =>
             rw [hT2] at hx0
             cases hx0
             rw [show bnd (Sum.inr n) (tNum t L 11) = .inr y from hT] at hA4 ⊢
             rw [show bnd (fs (Sum.inr y)) (tNum t L 20) = .inr z from hT2]
             have e2 : v2.1 4 = upd (v.1 4) (12 + 4 * D.2.2 6 + 0) (nI w) := by rw [hA2.1, gs_wk]
             have e4 : v4.1 4 = upd (upd (v.1 4) (12 + 4 * D.2.2 6 + 0) (nI w)) (12 + 4 * D.2.2 6 + 1) (nI y.2) := by rw [hA4.1, gs_wk, e2]; rfl
             have e5 : (gs_f (gs_w v4 4 (upd (v4.1 4) (12 + 4 * D.2.2 6 + 2) (nmv (Sum.inr z)))) 5 (nI (D.2.2 6 + 1))).1 4 = upd (upd (upd (v.1 4) (12 + 4 * D.2.2 6 + 0) (nI w)) (12 + 4 * D.2.2 6 + 1) (nI y.2)) (12 + 4 * D.2.2 6 + 2) (nI z.2) := by rw [gfw, e4]; rfl
             refine ⟨?_, fun g hg0 => ?_, ?_, ?_⟩
             · rw [e5]; exact hD.1.glv hgl hc6 (hD.2.1 _ hgl) hpf
             · rw [e5, pk_un (by omega), pk_un (by omega), pk_un (by omega)]; exact hD.2.1 g hg0
             · rw [e5, pk_un (by omega), pk_un (by omega), pk_un (by omega)]; exact hD.2.2.1
             · exact gsf_s _ _ _)
  by_cases e_1_6 : nI w = 6
  · rw [e_1_6]
    refine J_tableIn (off := 41) (tgt := 42) dX7_readLineOf_1 (by decide) (by decide) (by decide) (by decide) ?_
    have ew : w = 6 := (nI_eq (by omega) (by decide)).mp e_1_6
    refine J_aload_n (i := 0) (n := 43) dX7_readLineOf_42 rfl rfl rfl ?_
    refine T_get (k := 4) (n := 46) wk_X7 dX7_readLineOf_43 wf_X7_20 (by decide) (by decide) rfl rfl ?_
    refine J_bipush (n := 48) dX7_readLineOf_46 kB_28 rfl ?_
    refine J_aload_n (i := 0) (n := 49) dX7_readLineOf_48 rfl rfl rfl ?_
    refine J_iconst (n := 50) dX7_readLineOf_49 kI_0 rfl ?_
    refine J_bipush (n := 52) dX7_readLineOf_50 kB_11 rfl ?_
    refine J_callVx (n := 55) wS_X7_readNumber (c_M_readNumber (Q := fun r h => r = some (.int (nmv (bnd (Sum.inr n) (tNum t L 11)))) ∧ ∃ v2, mA v v2 [12, 13, 14, 15, 16, 17] ∧ mst v2 t L (fs (bnd (Sum.inr n) (tNum t L 11))) ∧ h = hp G (gs_set σ 7 0 v2)) (d + 1) ht (by decide) htp hx (fun v2 h1 h2 => ⟨rfl, v2, h1, h2, rfl⟩)) dX7_readLineOf_52 wm_X7_128 ⟨wM_X7_readNumber, wV_X7_readNumber⟩ rfl (T_recv (by decide) (by decide)) rfl rfl (Nat.le_of_ble_eq_true rfl) rfl (fun r h1 hq1 => ?_)
    obtain ⟨rfl, v2, hA2, hx2, rfl⟩ := hq1
    refine T_iast (c := 7) (k := 4) (N := 57) (n := 56) dX7_readLineOf_55 (by decide) (by decide) (fun _ => rfl) (vp_in_nI (by decide) (by decide)) rfl ?_
    rw [nI_clamp (by decide)]
    refine J_goto (tgt := 132) dX7_readLineOf_56 (by decide) ?_
    refine J_vret dX7_readLineOf_132 rfl ?_
    first
    | (have hX : tOf t L D w n = tFam t L D n := if_pos ew
       rw [hX] at hq
       exact hq v1 b1 b2 b3 (fun q => absurd ew q))
    | (have hX : tOf t L D w n = tRou t L D n := (if_neg (by omega)).trans (if_pos (by assumption))
       rw [hX] at hq
       exact hq v1 b1 b2 b3 (fun _ => b6))
    | (have hX : tOf t L D w n = tMan t L D n := (if_neg (by omega)).trans ((if_neg (by omega)).trans (if_pos ew))
       rw [hX] at hq
       refine hq _ (((hA2.b (by decide))).w _) ?_ (fun x hx0 => ?_) (fun _ => hA2.2 6 (by decide))
       · have hx5 : mst (gs_w v2 4 (upd (v2.1 4) 28 (nmv (bnd (Sum.inr n) (tNum t L 11))))) t L (fs (bnd (Sum.inr n) (tNum t L 11))) := hx2.same (fun _ _ _ => rfl)
         unfold tMan fst2
         cases hT : tNum t L 11 n with
         | inl e => rw [show bnd (Sum.inr n) (tNum t L 11) = .inl e from hT] at hx5 ⊢; exact hx5
         | inr y => rw [show bnd (Sum.inr n) (tNum t L 11) = .inr y from hT] at hx5 ⊢; exact hx5
       · unfold tMan at hx0
         cases hT : tNum t L 11 n with
         | inl e => rw [hT] at hx0; cases hx0
         | inr y =>
           rw [hT] at hx0
           cases hx0
           rw [show bnd (Sum.inr n) (tNum t L 11) = .inr y from hT]
           have h4a : v2.1 4 = v.1 4 := by rw [hA2.1]
           refine ⟨?_, fun g hg0 => ?_, ?_, ?_⟩
           · rw [gs_wk, h4a]; exact hD.1.num ⟨hg4, hc6⟩ (i := 28) (k := 8) y.2 (by omega)
           · rw [gs_wk, pk_un (by omega), h4a]; exact hD.2.1 g hg0
           · rw [gs_wk, pk_un (by omega), h4a]; exact hD.2.2.1
           · show v2.2.1 5 = _; rw [hA2.2 5 (by decide)]; exact hD.2.2.2)
    | (have hX : tOf t L D w n = tGlv t L D w n := (if_neg (by omega)).trans ((if_neg (by omega)).trans (if_neg (by omega)))
       rw [hX] at hq
       refine hq _ (((hB3.tr (hA4.b (by decide))).w _).f _ (by decide)) ?_ (fun x hx0 => ?_) (fun _ => by rw [gsf_n _ _ (by decide)]; show v4.2.1 6 = _; rw [hA4.2 6 (by decide)]; exact hA2.2 6 (by decide))
       · have hx5 : mst (gs_f (gs_w v4 4 (upd (v4.1 4) (12 + 4 * D.2.2 6 + 2) (nmv (bnd (fs (bnd (Sum.inr n) (tNum t L 11))) (tNum t L 20))))) 5 (nI (D.2.2 6 + 1))) t L (fs (bnd (fs (bnd (Sum.inr n) (tNum t L 11))) (tNum t L 20))) := hx4.same (fun k k1 k2 => gsf_n _ _ (by omega))
         unfold tGlv fst2
         cases hT : tNum t L 11 n with
         | inl e => rw [show bnd (Sum.inr n) (tNum t L 11) = .inl e from hT] at hx5 ⊢; exact hx5
         | inr y =>
           rw [show bnd (Sum.inr n) (tNum t L 11) = .inr y from hT] at hx5 ⊢
           cases hT2 : tNum t L 20 y.1 with
           | inl e => rw [show bnd (fs (Sum.inr y)) (tNum t L 20) = .inl e from hT2] at hx5 ⊢; rw [show bnd (Sum.inr y) (fun x => bnd (tNum t L 20 x.1) fun z => Sum.inr (z.1, pw_gl D w x.2 z.2)) = .inl e from by show bnd (tNum t L 20 y.1) _ = _; rw [hT2]; rfl]; exact hx5
           | inr z => rw [show bnd (fs (Sum.inr y)) (tNum t L 20) = .inr z from hT2] at hx5 ⊢; rw [show bnd (Sum.inr y) (fun x => bnd (tNum t L 20 x.1) fun z => Sum.inr (z.1, pw_gl D w x.2 z.2)) = .inr (z.1, pw_gl D w y.2 z.2) from by show bnd (tNum t L 20 y.1) _ = _; rw [hT2]; rfl]; exact hx5
       · unfold tGlv at hx0
         cases hT : tNum t L 11 n with
         | inl e => rw [hT] at hx0; cases hx0
         | inr y =>
           rw [hT] at hx0
           have hx0 : bnd (tNum t L 20 y.1) (fun z => Sum.inr (z.1, pw_gl D w y.2 z.2)) = Sum.inr x := hx0
           cases hT2 : tNum t L 20 y.1 with
           | inl e => rw [hT2] at hx0; cases hx0
           | inr z =>
             rw [hT2] at hx0
             cases hx0
             rw [show bnd (Sum.inr n) (tNum t L 11) = .inr y from hT] at hA4 ⊢
             rw [show bnd (fs (Sum.inr y)) (tNum t L 20) = .inr z from hT2]
             have e2 : v2.1 4 = upd (v.1 4) (12 + 4 * D.2.2 6 + 0) (nI w) := by rw [hA2.1, gs_wk]
             have e4 : v4.1 4 = upd (upd (v.1 4) (12 + 4 * D.2.2 6 + 0) (nI w)) (12 + 4 * D.2.2 6 + 1) (nI y.2) := by rw [hA4.1, gs_wk, e2]; rfl
             have e5 : (gs_f (gs_w v4 4 (upd (v4.1 4) (12 + 4 * D.2.2 6 + 2) (nmv (Sum.inr z)))) 5 (nI (D.2.2 6 + 1))).1 4 = upd (upd (upd (v.1 4) (12 + 4 * D.2.2 6 + 0) (nI w)) (12 + 4 * D.2.2 6 + 1) (nI y.2)) (12 + 4 * D.2.2 6 + 2) (nI z.2) := by rw [gfw, e4]; rfl
             refine ⟨?_, fun g hg0 => ?_, ?_, ?_⟩
             · rw [e5]; exact hD.1.glv hgl hc6 (hD.2.1 _ hgl) hpf
             · rw [e5, pk_un (by omega), pk_un (by omega), pk_un (by omega)]; exact hD.2.1 g hg0
             · rw [e5, pk_un (by omega), pk_un (by omega), pk_un (by omega)]; exact hD.2.2.1
             · exact gsf_s _ _ _)
  refine J_tableOut (tgt := 59) dX7_readLineOf_1 (by have q_0 := lv_neT (a := 4) e_1_4 rfl; have q_1 := lv_neT (a := 5) e_1_5 rfl; have q_2 := lv_neT (a := 6) e_1_6 rfl; omega) (by decide) ?_
  have hw4 : w < 4 := by
    have q4 : ¬ w = 4 := fun q => e_1_4 (by rw [q]; rfl)
    have q5 : ¬ w = 5 := fun q => e_1_5 (by rw [q]; rfl)
    have q6 : ¬ w = 6 := fun q => e_1_6 (by rw [q]; rfl)
    omega
  have hgl := hg hw4
  have hg5 : v.2.1 5 = nI (D.2.2 6) := hD.2.2.2
  refine J_aload_n (i := 0) (n := 60) dX7_readLineOf_59 rfl rfl rfl ?_
  refine T_get (k := 4) (n := 63) wk_X7 dX7_readLineOf_60 wf_X7_20 (by decide) (by decide) rfl rfl ?_
  refine J_bipush (n := 65) dX7_readLineOf_63 kB_12 rfl ?_
  refine J_iconst (n := 66) dX7_readLineOf_65 kI_4 rfl ?_
  refine J_aload_n (i := 0) (n := 67) dX7_readLineOf_66 rfl rfl rfl ?_
  refine T_get (k := 5) (n := 70) wk_X7 dX7_readLineOf_67 wf_X7_50 (by decide) (by decide) rfl rfl ?_
  rw [hg5]
  refine J_imul (n := 71) dX7_readLineOf_70 rfl ?_
  rw [pk_mul]
  refine J_iadd (n := 72) dX7_readLineOf_71 rfl ?_
  rw [nI_add]
  refine J_iconst (n := 73) dX7_readLineOf_72 kI_0 rfl ?_
  refine J_iadd (n := 74) dX7_readLineOf_73 rfl ?_
  rw [nI_add]
  refine J_iload_n (i := 1) (n := 75) dX7_readLineOf_74 rfl rfl rfl ?_
  refine T_iast (c := 7) (k := 4) (N := 57) (n := 76) dX7_readLineOf_75 (by decide) (by decide) (fun _ => rfl) (vp_in_nI (by omega) (by decide)) rfl ?_
  rw [nI_clamp (by omega)]
  refine J_aload_n (i := 0) (n := 77) dX7_readLineOf_76 rfl rfl rfl ?_
  refine T_get (k := 4) (n := 80) wk_X7 dX7_readLineOf_77 wf_X7_20 (by decide) (by decide) rfl rfl ?_
  refine J_bipush (n := 82) dX7_readLineOf_80 kB_12 rfl ?_
  refine J_iconst (n := 83) dX7_readLineOf_82 kI_4 rfl ?_
  refine J_aload_n (i := 0) (n := 84) dX7_readLineOf_83 rfl rfl rfl ?_
  refine T_get (k := 5) (n := 87) wk_X7 dX7_readLineOf_84 wf_X7_50 (by decide) (by decide) rfl rfl ?_
  rw [show (gs_w v 4 (upd (v.1 4) (12 + 4 * D.2.2 6 + 0) (nI w))).2.1 5 = nI (D.2.2 6) from hg5]
  refine J_imul (n := 88) dX7_readLineOf_87 rfl ?_
  rw [pk_mul]
  refine J_iadd (n := 89) dX7_readLineOf_88 rfl ?_
  rw [nI_add]
  refine J_iconst (n := 90) dX7_readLineOf_89 kI_1 rfl ?_
  refine J_iadd (n := 91) dX7_readLineOf_90 rfl ?_
  rw [nI_add]
  refine J_aload_n (i := 0) (n := 92) dX7_readLineOf_91 rfl rfl rfl ?_
  refine J_iconst (n := 93) dX7_readLineOf_92 kI_0 rfl ?_
  refine J_bipush (n := 95) dX7_readLineOf_93 kB_11 rfl ?_
  refine J_callVx (n := 98) wS_X7_readNumber (c_M_readNumber (Q := fun r h => r = some (.int (nmv (bnd (Sum.inr n) (tNum t L 11)))) ∧ ∃ v2, mA (gs_w v 4 (upd (v.1 4) (12 + 4 * D.2.2 6 + 0) (nI w))) v2 [12, 13, 14, 15, 16, 17] ∧ mst v2 t L (fs (bnd (Sum.inr n) (tNum t L 11))) ∧ h = hp G (gs_set σ 7 0 v2)) (d + 1) ht (by decide) (show mtp (gs_w v 4 (upd (v.1 4) (12 + 4 * D.2.2 6 + 0) (nI w))) t L from ((mB.rf v [5, 6, 12, 13, 14, 15, 16, 17]).w _).tp (by decide) htp) (show mst (gs_w v 4 (upd (v.1 4) (12 + 4 * D.2.2 6 + 0) (nI w))) t L (.inr n) from hx.same (fun _ _ _ => rfl)) (fun v2 h1 h2 => ⟨rfl, v2, h1, h2, rfl⟩)) dX7_readLineOf_95 wm_X7_128 ⟨wM_X7_readNumber, wV_X7_readNumber⟩ rfl (T_recv (by decide) (by decide)) rfl rfl (Nat.le_of_ble_eq_true rfl) rfl (fun r h1 hq1 => ?_)
  obtain ⟨rfl, v2, hA2, hx2, rfl⟩ := hq1
  refine T_iast (c := 7) (k := 4) (N := 57) (n := 99) dX7_readLineOf_98 (by decide) (by decide) (fun _ => rfl) (vp_in_nI (by omega) (by decide)) rfl ?_
  rw [nI_clamp (by omega)]
  have hB3 : mB v (gs_w v2 4 (upd (v2.1 4) (12 + 4 * D.2.2 6 + 1) (nmv (bnd (Sum.inr n) (tNum t L 11))))) [5, 6, 12, 13, 14, 15, 16, 17] := (((mB.rf v [5, 6, 12, 13, 14, 15, 16, 17]).w _).tr (hA2.b (by decide))).w _
  have hx3 : mst (gs_w v2 4 (upd (v2.1 4) (12 + 4 * D.2.2 6 + 1) (nmv (bnd (Sum.inr n) (tNum t L 11))))) t L (fs (bnd (Sum.inr n) (tNum t L 11))) := hx2.same (fun _ _ _ => rfl)
  have hg7 : (gs_w v2 4 (upd (v2.1 4) (12 + 4 * D.2.2 6 + 1) (nmv (bnd (Sum.inr n) (tNum t L 11))))).2.1 5 = nI (D.2.2 6) := by show v2.2.1 5 = _; rw [hA2.2 5 (by decide)]; exact hg5
  refine J_aload_n (i := 0) (n := 100) dX7_readLineOf_99 rfl rfl rfl ?_
  refine T_get (k := 4) (n := 103) wk_X7 dX7_readLineOf_100 wf_X7_20 (by decide) (by decide) rfl rfl ?_
  refine J_bipush (n := 105) dX7_readLineOf_103 kB_12 rfl ?_
  refine J_iconst (n := 106) dX7_readLineOf_105 kI_4 rfl ?_
  refine J_aload_n (i := 0) (n := 107) dX7_readLineOf_106 rfl rfl rfl ?_
  refine T_get (k := 5) (n := 110) wk_X7 dX7_readLineOf_107 wf_X7_50 (by decide) (by decide) rfl rfl ?_
  rw [hg7]
  refine J_imul (n := 111) dX7_readLineOf_110 rfl ?_
  rw [pk_mul]
  refine J_iadd (n := 112) dX7_readLineOf_111 rfl ?_
  rw [nI_add]
  refine J_iconst (n := 113) dX7_readLineOf_112 kI_2 rfl ?_
  refine J_iadd (n := 114) dX7_readLineOf_113 rfl ?_
  rw [nI_add]
  refine J_aload_n (i := 0) (n := 115) dX7_readLineOf_114 rfl rfl rfl ?_
  refine J_iconst (n := 116) dX7_readLineOf_115 kI_0 rfl ?_
  refine J_bipush (n := 118) dX7_readLineOf_116 kB_20 rfl ?_
  refine J_callVx (n := 121) wS_X7_readNumber (c_M_readNumber (Q := fun r h => r = some (.int (nmv (bnd (fs (bnd (Sum.inr n) (tNum t L 11))) (tNum t L 20)))) ∧ ∃ v4, mA (gs_w v2 4 (upd (v2.1 4) (12 + 4 * D.2.2 6 + 1) (nmv (bnd (Sum.inr n) (tNum t L 11))))) v4 [12, 13, 14, 15, 16, 17] ∧ mst v4 t L (fs (bnd (fs (bnd (Sum.inr n) (tNum t L 11))) (tNum t L 20))) ∧ h = hp G (gs_set σ 7 0 v4)) (d + 1) ht (by decide) ((hB3).tp (by decide) htp) hx3 (fun v2 h1 h2 => ⟨rfl, v2, h1, h2, rfl⟩)) dX7_readLineOf_118 wm_X7_128 ⟨wM_X7_readNumber, wV_X7_readNumber⟩ rfl (T_recv (by decide) (by decide)) rfl rfl (Nat.le_of_ble_eq_true rfl) rfl (fun r h1 hq1 => ?_)
  obtain ⟨rfl, v4, hA4, hx4, rfl⟩ := hq1
  refine T_iast (c := 7) (k := 4) (N := 57) (n := 122) dX7_readLineOf_121 (by decide) (by decide) (fun _ => rfl) (vp_in_nI (by omega) (by decide)) rfl ?_
  rw [nI_clamp (by omega)]
  have hg9 : (gs_w v4 4 (upd (v4.1 4) (12 + 4 * D.2.2 6 + 2) (nmv (bnd (fs (bnd (Sum.inr n) (tNum t L 11))) (tNum t L 20))))).2.1 5 = nI (D.2.2 6) := by show v4.2.1 5 = _; rw [hA4.2 5 (by decide)]; exact hg7
  refine J_aload_n (i := 0) (n := 123) dX7_readLineOf_122 rfl rfl rfl ?_
  refine J_dup (n := 124) dX7_readLineOf_123 rfl rfl ?_
  refine T_get (k := 5) (n := 127) wk_X7 dX7_readLineOf_124 wf_X7_50 (by decide) (by decide) rfl rfl ?_
  rw [hg9]
  refine J_iconst (n := 128) dX7_readLineOf_127 kI_1 rfl ?_
  refine J_iadd (n := 129) dX7_readLineOf_128 rfl ?_
  rw [nI_add]
  refine T_putI (k := 5) (n := 132) wk_X7 dX7_readLineOf_129 wf_X7_50 (by decide) (by decide) (kN_i _) rfl (Nat.le_of_ble_eq_true rfl) rfl rfl ?_
  refine J_vret dX7_readLineOf_132 rfl ?_
  first
  | (have hX : tOf t L D w n = tFam t L D n := if_pos ew
     rw [hX] at hq
     exact hq v1 b1 b2 b3 (fun q => absurd ew q))
  | (have hX : tOf t L D w n = tRou t L D n := (if_neg (by omega)).trans (if_pos (by assumption))
     rw [hX] at hq
     exact hq v1 b1 b2 b3 (fun _ => b6))
  | (have hX : tOf t L D w n = tMan t L D n := (if_neg (by omega)).trans ((if_neg (by omega)).trans (if_pos ew))
     rw [hX] at hq
     refine hq _ (((hA2.b (by decide))).w _) ?_ (fun x hx0 => ?_) (fun _ => hA2.2 6 (by decide))
     · have hx5 : mst (gs_w v2 4 (upd (v2.1 4) 28 (nmv (bnd (Sum.inr n) (tNum t L 11))))) t L (fs (bnd (Sum.inr n) (tNum t L 11))) := hx2.same (fun _ _ _ => rfl)
       unfold tMan fst2
       cases hT : tNum t L 11 n with
       | inl e => rw [show bnd (Sum.inr n) (tNum t L 11) = .inl e from hT] at hx5 ⊢; exact hx5
       | inr y => rw [show bnd (Sum.inr n) (tNum t L 11) = .inr y from hT] at hx5 ⊢; exact hx5
     · unfold tMan at hx0
       cases hT : tNum t L 11 n with
       | inl e => rw [hT] at hx0; cases hx0
       | inr y =>
         rw [hT] at hx0
         cases hx0
         rw [show bnd (Sum.inr n) (tNum t L 11) = .inr y from hT]
         have h4a : v2.1 4 = v.1 4 := by rw [hA2.1]
         refine ⟨?_, fun g hg0 => ?_, ?_, ?_⟩
         · rw [gs_wk, h4a]; exact hD.1.num ⟨hg4, hc6⟩ (i := 28) (k := 8) y.2 (by omega)
         · rw [gs_wk, pk_un (by omega), h4a]; exact hD.2.1 g hg0
         · rw [gs_wk, pk_un (by omega), h4a]; exact hD.2.2.1
         · show v2.2.1 5 = _; rw [hA2.2 5 (by decide)]; exact hD.2.2.2)
  | (have hX : tOf t L D w n = tGlv t L D w n := (if_neg (by omega)).trans ((if_neg (by omega)).trans (if_neg (by omega)))
     rw [hX] at hq
     refine hq _ (((hB3.tr (hA4.b (by decide))).w _).f _ (by decide)) ?_ (fun x hx0 => ?_) (fun _ => by rw [gsf_n _ _ (by decide)]; show v4.2.1 6 = _; rw [hA4.2 6 (by decide)]; exact hA2.2 6 (by decide))
     · have hx5 : mst (gs_f (gs_w v4 4 (upd (v4.1 4) (12 + 4 * D.2.2 6 + 2) (nmv (bnd (fs (bnd (Sum.inr n) (tNum t L 11))) (tNum t L 20))))) 5 (nI (D.2.2 6 + 1))) t L (fs (bnd (fs (bnd (Sum.inr n) (tNum t L 11))) (tNum t L 20))) := hx4.same (fun k k1 k2 => gsf_n _ _ (by omega))
       unfold tGlv fst2
       cases hT : tNum t L 11 n with
       | inl e => rw [show bnd (Sum.inr n) (tNum t L 11) = .inl e from hT] at hx5 ⊢; exact hx5
       | inr y =>
         rw [show bnd (Sum.inr n) (tNum t L 11) = .inr y from hT] at hx5 ⊢
         cases hT2 : tNum t L 20 y.1 with
         | inl e => rw [show bnd (fs (Sum.inr y)) (tNum t L 20) = .inl e from hT2] at hx5 ⊢; rw [show bnd (Sum.inr y) (fun x => bnd (tNum t L 20 x.1) fun z => Sum.inr (z.1, pw_gl D w x.2 z.2)) = .inl e from by show bnd (tNum t L 20 y.1) _ = _; rw [hT2]; rfl]; exact hx5
         | inr z => rw [show bnd (fs (Sum.inr y)) (tNum t L 20) = .inr z from hT2] at hx5 ⊢; rw [show bnd (Sum.inr y) (fun x => bnd (tNum t L 20 x.1) fun z => Sum.inr (z.1, pw_gl D w x.2 z.2)) = .inr (z.1, pw_gl D w y.2 z.2) from by show bnd (tNum t L 20 y.1) _ = _; rw [hT2]; rfl]; exact hx5
     · unfold tGlv at hx0
       cases hT : tNum t L 11 n with
       | inl e => rw [hT] at hx0; cases hx0
       | inr y =>
         rw [hT] at hx0
         have hx0 : bnd (tNum t L 20 y.1) (fun z => Sum.inr (z.1, pw_gl D w y.2 z.2)) = Sum.inr x := hx0
         cases hT2 : tNum t L 20 y.1 with
         | inl e => rw [hT2] at hx0; cases hx0
         | inr z =>
           rw [hT2] at hx0
           cases hx0
           rw [show bnd (Sum.inr n) (tNum t L 11) = .inr y from hT] at hA4 ⊢
           rw [show bnd (fs (Sum.inr y)) (tNum t L 20) = .inr z from hT2]
           have e2 : v2.1 4 = upd (v.1 4) (12 + 4 * D.2.2 6 + 0) (nI w) := by rw [hA2.1, gs_wk]
           have e4 : v4.1 4 = upd (upd (v.1 4) (12 + 4 * D.2.2 6 + 0) (nI w)) (12 + 4 * D.2.2 6 + 1) (nI y.2) := by rw [hA4.1, gs_wk, e2]; rfl
           have e5 : (gs_f (gs_w v4 4 (upd (v4.1 4) (12 + 4 * D.2.2 6 + 2) (nmv (Sum.inr z)))) 5 (nI (D.2.2 6 + 1))).1 4 = upd (upd (upd (v.1 4) (12 + 4 * D.2.2 6 + 0) (nI w)) (12 + 4 * D.2.2 6 + 1) (nI y.2)) (12 + 4 * D.2.2 6 + 2) (nI z.2) := by rw [gfw, e4]; rfl
           refine ⟨?_, fun g hg0 => ?_, ?_, ?_⟩
           · rw [e5]; exact hD.1.glv hgl hc6 (hD.2.1 _ hgl) hpf
           · rw [e5, pk_un (by omega), pk_un (by omega), pk_un (by omega)]; exact hD.2.1 g hg0
           · rw [e5, pk_un (by omega), pk_un (by omega), pk_un (by omega)]; exact hD.2.2.1
           · exact gsf_s _ _ _)
