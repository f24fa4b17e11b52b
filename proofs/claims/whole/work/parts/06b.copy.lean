section GXCP
variable {G : gx_G} {M : gx_M} {d kc ks : Nat} {Q : Option Value → gx_Hp → Prop} {pc n : Nat} {lv : List (Nat × Value)} {rest : List Value} {h : gx_Hp}
theorem gx_toInt (z : Int32) (hz : ¬ z < 0) : z.toInt = (z.toNatClampNeg : Int) := by
  have hz0 : (0 : Int) ≤ z.toInt := by
    have := Int32.not_lt.mp hz
    simpa using Int32.le_iff_toInt_le.mp this
  show z.toInt = ((z.toInt.toNat : Nat) : Int)
  omega
/-- System.arraycopy of ints, from 0 to 0 -/
theorem J_copy {index a0 a N0 N1 L : Nat} {f g : Nat → Int32} (hd : decode M.2.1 pc = .ok (.invokestatic index, 3)) (hw : Cond.methodLink M.1 index arraycopyName ∈ gx_ws) (ha0 : h.2 a0 = some (.inl (G.2.1 0, N0, .inl f))) (ha : h.2 a = some (.inl (G.2.1 0, N1, .inl g))) (h0 : L ≤ N0) (h1 : L ≤ N1) (hL31 : L < 2 ^ 31) (hst : (rest.map fun v => v.category).sum ≤ 8) (hn : pc + 3 = n)
    (k : gx_J G M (d + 1) kc ks Q n lv rest (gx_up h a (.inl (G.2.1 0, N1, .inl (va_cpy f g 0 0 L))))) : gx_J G M (d + 1) kc ks Q pc lv (.int (nI L) :: .int (nI 0) :: .ref a :: .int (nI 0) :: .ref a0 :: rest) h := by
  subst hn
  intro p l e R s m args below meth c H locs cells slots ls A hR hL hl hc hs
  have hts := A.2.2.2.2.2.2.2.1
  have hfr := A.2.2.2.2.2.2.2.2.2.1
  have hlo := A.2.2.2.2.2.2.2.2.2.2
  have hK := A.2.2.2.2.2.2.2.2.1.1
  intro T hT X
  obtain ⟨-, hc0⟩ := hR.2.2.2 a0 _ ha0
  obtain ⟨haN, hc1⟩ := hR.2.2.2 a _ ha
  have hc0 : H[a0]? = some (vp_cell (G.2.1 0) (N0, .inl f)) := hc0
  have hc1 : H[a]? = some (vp_cell (G.2.1 0) (N1, .inl g)) := hc1
  obtain ⟨-, k0, hk0, cm0, hkk0⟩ := (hK.2 0 _ rfl).1 N0 (fun j => .int (f j))
  obtain ⟨-, k1, hk1, cm1, hkk1⟩ := (hK.2 0 _ rfl).1 N1 (fun j => .int (g j))
  have z0 : ¬ nI 0 < 0 := nI_pos (by decide)
  have zL : ¬ nI L < 0 := nI_pos hL31
  have cL : (nI L).toNatClampNeg = L := nI_clamp hL31
  have c0 : (nI 0).toNatClampNeg = 0 := nI_clamp (by decide)
  obtain ⟨vm', X', step⟩ := X.arraycopy A.1 A.2.2.2.2.2.1 (hts _ hw) (hts _ wnat) (hts _ wsac) (hts _ wI_J10) (src := a0) (dst := a) (cs := vp_cell (G.2.1 0) (N0, .inl f)) (cd := vp_cell (G.2.1 0) (N1, .inl g)) (srcPos := nI 0) (destPos := nI 0) (n := nI L) (by rw [hT]; exact hc0) (by rw [hT]; exact hc1)
    (fun _ h => by cases h) (fun _ h => by cases h) (fun h => by cases h) (fun h => by cases h) hk0 hk1 hkk0 hkk1 rfl z0 z0 zL
    (by rw [gx_toInt _ z0, gx_toInt _ zL, c0, cL]; show ¬ _ > ((arrV (G.2.1 0) N0 (fun j => .int (f j))).slots.size : Int); rw [arrV_size]; omega)
    (by rw [gx_toInt _ z0, gx_toInt _ zL, c0, cL]; show ¬ _ > ((arrV (G.2.1 0) N1 (fun j => .int (g j))).slots.size : Int); rw [arrV_size]; omega)
    (fun vm₁ _ i hi => by
      rw [cL] at hi
      have e : (vp_cell (G.2.1 0) (N0, .inl f)).slots.getD ((nI 0).toNatClampNeg + i) .null = .int (f ((nI 0).toNatClampNeg + i)) := by
        show (arrV (G.2.1 0) N0 (fun j => .int (f j))).slots.getD _ _ = _
        rw [Array.getD_eq_getD_getElem?, arrV_read _ _ (by rw [c0]; omega)]
        rfl
      rw [e]
      exact ⟨rfl, trivial⟩)
    (g := F0 m pc ls (.int (nI L) :: .int (nI 0) :: .ref a :: .int (nI 0) :: .ref a0 :: rest)) rfl (hl.1.trans A.2.2.1.symm) (rest := rest) rfl (by rw [A.2.1]; exact hd) (by omega) (by show 2 * 0 + _ + (7 + 11) ≤ _; omega)
  have e1 : copied (vp_cell (G.2.1 0) (N0, .inl f)) (vp_cell (G.2.1 0) (N1, .inl g)) (nI 0) (nI 0) (nI L) = vp_cell (G.2.1 0) (N1, .inl (va_cpy f g (nI 0).toNatClampNeg (nI 0).toNatClampNeg (nI L).toNatClampNeg)) := va_copied (fun z => .int z) (G.2.1 0) (G.2.1 0) f g (by rw [c0, cL]; omega)
  rw [e1, c0, cL] at X' step
  have hlt : a < H.size := (Array.getElem?_eq_some_iff.mp hc1).1
  obtain ⟨t, a1, b1⟩ := k p l e R s m args below meth c (H.setIfInBounds a (vp_cell (G.2.1 0) (N1, .inl (va_cpy f g 0 0 L)))) _ cells slots ls A (hR.put haN (by simp) (fun q hq => by simp [Array.getElem?_setIfInBounds, Ne.symm hq]) (by show (H.setIfInBounds a _)[a]? = some _; simp [Array.getElem?_setIfInBounds, hlt])) (fun q hq => by
      rcases List.mem_append.mp hq with hq | hq
      · exact hL q hq
      · obtain ⟨z, -, hz⟩ := List.mem_map.mp hq
        rw [← hz]
        exact haN) hl hc hs _ (by rw [← hT]; rfl) X'
  exact ⟨t, step t a1, b1⟩
/-- the same, of a row of one object into that of another -/
theorem T_copy {index c i j k L N : Nat} {σ : gs_S} {w : gs_Ob} (hd : decode M.2.1 pc = .ok (.invokestatic index, 3)) (hw : Cond.methodLink M.1 index arraycopyName ∈ gx_ws) (hk : k < 30 ∧ c < 8 ∧ gs_isA c k = true) (hi : i < gs_cnt c) (hj : j < gs_cnt c) (hij : j ≠ i) (ha : ∀ (q : Nat) (v : gs_Ob), gs_arr G c q v k = .inl (G.2.1 0, N, .inl (v.1 k))) (hL : L ≤ N ∧ L < 2 ^ 31) (hst : (rest.map fun v => v.category).sum ≤ 8) (hn : pc + 3 = n)
    (kk : gx_J G M (d + 1) kc ks Q n lv rest (hp G (gs_set σ c i (gs_w w k (va_cpy ((σ c j).1 k) (w.1 k) 0 0 L))))) : gx_J G M (d + 1) kc ks Q pc lv (.int (nI L) :: .int (nI 0) :: .ref (gs_a G c i (k + 1)) :: .int (nI 0) :: .ref (gs_a G c j (k + 1)) :: rest) (hp G (gs_set σ c i w)) := by
  refine J_copy hd hw ((hp_at (x := (c, j, k + 1)) (gs_inA c hk.2.1 j hj k hk.1 hk.2.2)).trans (by show some (gs_arr G c j (gs_set σ c i w c j) k) = _; rw [gs_neI hij, ha])) ((hp_at (x := (c, i, k + 1)) (gs_inA c hk.2.1 i hi k hk.1 hk.2.2)).trans (by show some (gs_arr G c i (gs_set σ c i w c i) k) = _; rw [gs_same, ha])) hL.1 hL.1 hL.2 hst hn ?_
  rw [hp_upA (f := va_cpy ((σ c j).1 k) (w.1 k) 0 0 L) hk.2.1 hi hk.1 hk.2.2 (by rw [ha]; simp [gs_w, va_up])]
  exact kk
end GXCP
theorem gx_inc1 (g : Nat) : nI g + Int32.ofInt 1 = nI (g + 1) := nI_1 g
theorem J_inc {G : gx_G} {M : gx_M} {d kc ks : Nat} {Q : Option Value → gx_Hp → Prop} {pc n : Nat} {lv : List (Nat × Value)} {rest : List Value} {h : gx_Hp} {i g : Nat} {lv' : List (Nat × Value)} (hd : decode M.2.1 pc = .ok (.iinc i 1, 3)) (hx : gl_get lv i = some (.int (nI g))) (hb : i < M.2.2.1) (hv : gl_put1 i (.int (nI (g + 1))) lv = lv') (hn : pc + 3 = n) (k : gx_J G M d kc ks Q n lv' rest h) : gx_J G M d kc ks Q pc lv rest h := J_iinc hd hx (gx_inc1 g) hb hv hn k
