section GXC
variable {G : gx_G} {M : gx_M} {d kc ks : Nat} {Q : Option Value → gx_Hp → Prop} {pc n : Nat} {lv : List (Nat × Value)} {rest : List Value} {h : gx_Hp}
theorem gx_K.of' {y : MethodName} {mc ms : Nat} {av : List Value} {lv : List (Nat × Value)} (hy : plainName y.cls = true) (hcls : y.cls = M.1) (hnm : M.2.2.2.2 = true → y.name = "<init>") (hlen : (lg_sl av).length ≤ M.2.2.1) (hlv : lv_args 0 av = lv) (k : gx_J G M d mc ms Q 0 lv [] h) : gx_K G y M d mc ms av h Q := by
  subst hlv
  exact gx_K.of hy hcls hnm hlen k
theorem gx_K.mono {y : MethodName} {mc ms : Nat} {av : List Value} {Q1 : Option Value → gx_Hp → Prop} (k : gx_K G y M d mc ms av h Q1) (hq : ∀ r h1, Q1 r h1 → Q r h1) : gx_K G y M d mc ms av h Q := by
  intro l rm e1 e2 e3 e4
  have k1 := k l rm e1 e2 e3 e4
  unfold Met at k1 ⊢
  intro p e ha hc hk s m args below hf happ hP hT
  obtain ⟨t, o, a1, a2, a3, ⟨⟨r, h1, b1, b2, b3⟩, b4⟩⟩ := k1 p e ha hc hk s m args below hf happ hP hT
  exact ⟨t, o, a1, a2, a3, ⟨⟨r, h1, b1, hq r h1 b2, b3⟩, b4⟩⟩
theorem J_callVx {y : MethodName} {M1 : gx_M} {np index : Nat} {As st0 : List Value} {b ci : Nat} {C : String} {T : u_T} {N : Nat} {fs : List Value} {Q1 : Option Value → gx_Hp → Prop} (hS : gx_St y M1 np) (hK : gx_K G y M1 d 0 0 (.ref b :: As) h Q1) (hd : decode M.2.1 pc = .ok (.invokevirtual index, 3)) (hw : Cond.methodLink M.1 index y ∈ gx_ws) (hw1 : Cond.instanceMethod y ∈ gx_ws ∧ Cond.selects C y y ∈ gx_ws) (hc : gx_cl[ci]? = some (C, T, N)) (hb : h.2 b = some (.inr (ci, fs))) (hA : As.length = np) (hstk : st0 = As.reverse ++ .ref b :: rest) (hst : (rest.map fun v => v.category).sum ≤ 8) (hn : pc + 3 = n)
    (k : ∀ r h1, Q1 r h1 → gx_J G M (d + 1) kc ks Q n lv (r.toList ++ rest) h1) : gx_J G M (d + 1) kc ks Q pc lv st0 h := by
  have := J_callV (kc := kc) (ks := ks) hS hK hd hw hw1 hc hb hA hstk hst hn k
  rw [Nat.zero_add, Nat.zero_add] at this
  exact this
theorem J_callSx {y : MethodName} {M1 : gx_M} {np index : Nat} {As st0 : List Value} {Q1 : Option Value → gx_Hp → Prop} (hS : gx_St y M1 np) (hK : gx_K G y M1 d 0 0 As h Q1) (hd : decode M.2.1 pc = .ok (.invokestatic index, 3)) (hw : Cond.methodLink M.1 index y ∈ gx_ws) (hw1 : Cond.static y ∈ gx_ws) (hA : As.length = np) (hstk : st0 = As.reverse ++ rest) (hst : (rest.map fun v => v.category).sum ≤ 8) (hn : pc + 3 = n)
    (k : ∀ r h1, Q1 r h1 → gx_J G M (d + 1) kc ks Q n lv (r.toList ++ rest) h1) : gx_J G M (d + 1) kc ks Q pc lv st0 h := by
  have := J_callS (kc := kc) (ks := ks) hS hK hd hw hw1 hA hstk hst hn k
  rw [Nat.zero_add, Nat.zero_add] at this
  exact this
theorem J_callSNx {y : MethodName} {M1 : gx_M} {np index : Nat} {As st0 : List Value} {Q1 : Option Value → gx_Hp → Prop} (hS : gx_St y M1 np) (hK : gx_K G y M1 d 0 0 As h Q1) (hd : decode M.2.1 pc = .ok (.invokestatic index, 3)) (hw : (M.1, index, y) ∈ gx_nest) (hw1 : Cond.static y ∈ gx_ws) (hA : As.length = np) (hstk : st0 = As.reverse ++ rest) (hst : (rest.map fun v => v.category).sum ≤ 8) (hn : pc + 3 = n)
    (k : ∀ r h1, Q1 r h1 → gx_J G M (d + 1) kc ks Q n lv (r.toList ++ rest) h1) : gx_J G M (d + 1) kc ks Q pc lv st0 h := by
  have := J_callSN (kc := kc) (ks := ks) hS hK hd hw hw1 hA hstk hst hn k
  rw [Nat.zero_add, Nat.zero_add] at this
  exact this
/-- an answer that is known, nothing made -/
abbrev gx_D (G : gx_G) (y : MethodName) (M : gx_M) (d : Nat) (av : List Value) (h : gx_Hp) (r : Option Value) (h' : gx_Hp) : Prop := gx_K G y M d 0 0 av h (fun r1 h1 => r1 = r ∧ h1 = h')
theorem J_callVr {y : MethodName} {M1 : gx_M} {np index : Nat} {As st0 : List Value} {b ci : Nat} {C : String} {T : u_T} {N : Nat} {fs : List Value} {v : Value} {h1 : gx_Hp} (hS : gx_St y M1 np) (hK : gx_D G y M1 d (.ref b :: As) h (some v) h1) (hd : decode M.2.1 pc = .ok (.invokevirtual index, 3)) (hw : Cond.methodLink M.1 index y ∈ gx_ws) (hw1 : Cond.instanceMethod y ∈ gx_ws ∧ Cond.selects C y y ∈ gx_ws) (hc : gx_cl[ci]? = some (C, T, N)) (hb : h.2 b = some (.inr (ci, fs))) (hA : As.length = np) (hstk : st0 = As.reverse ++ .ref b :: rest) (hst : (rest.map fun v => v.category).sum ≤ 8) (hn : pc + 3 = n)
    (k : gx_J G M (d + 1) kc ks Q n lv (v :: rest) h1) : gx_J G M (d + 1) kc ks Q pc lv st0 h :=
  J_callVx hS hK hd hw hw1 hc hb hA hstk hst hn (fun r h2 q => by obtain ⟨rfl, rfl⟩ := q; exact k)
theorem J_callVv {y : MethodName} {M1 : gx_M} {np index : Nat} {As st0 : List Value} {b ci : Nat} {C : String} {T : u_T} {N : Nat} {fs : List Value} {h1 : gx_Hp} (hS : gx_St y M1 np) (hK : gx_D G y M1 d (.ref b :: As) h none h1) (hd : decode M.2.1 pc = .ok (.invokevirtual index, 3)) (hw : Cond.methodLink M.1 index y ∈ gx_ws) (hw1 : Cond.instanceMethod y ∈ gx_ws ∧ Cond.selects C y y ∈ gx_ws) (hc : gx_cl[ci]? = some (C, T, N)) (hb : h.2 b = some (.inr (ci, fs))) (hA : As.length = np) (hstk : st0 = As.reverse ++ .ref b :: rest) (hst : (rest.map fun v => v.category).sum ≤ 8) (hn : pc + 3 = n)
    (k : gx_J G M (d + 1) kc ks Q n lv rest h1) : gx_J G M (d + 1) kc ks Q pc lv st0 h :=
  J_callVx hS hK hd hw hw1 hc hb hA hstk hst hn (fun r h2 q => by obtain ⟨rfl, rfl⟩ := q; exact k)
theorem J_callSr {y : MethodName} {M1 : gx_M} {np index : Nat} {As st0 : List Value} {v : Value} {h1 : gx_Hp} (hS : gx_St y M1 np) (hK : gx_D G y M1 d As h (some v) h1) (hd : decode M.2.1 pc = .ok (.invokestatic index, 3)) (hw : Cond.methodLink M.1 index y ∈ gx_ws) (hw1 : Cond.static y ∈ gx_ws) (hA : As.length = np) (hstk : st0 = As.reverse ++ rest) (hst : (rest.map fun v => v.category).sum ≤ 8) (hn : pc + 3 = n)
    (k : gx_J G M (d + 1) kc ks Q n lv (v :: rest) h1) : gx_J G M (d + 1) kc ks Q pc lv st0 h :=
  J_callSx hS hK hd hw hw1 hA hstk hst hn (fun r h2 q => by obtain ⟨rfl, rfl⟩ := q; exact k)
theorem J_callSv {y : MethodName} {M1 : gx_M} {np index : Nat} {As st0 : List Value} {h1 : gx_Hp} (hS : gx_St y M1 np) (hK : gx_D G y M1 d As h none h1) (hd : decode M.2.1 pc = .ok (.invokestatic index, 3)) (hw : Cond.methodLink M.1 index y ∈ gx_ws) (hw1 : Cond.static y ∈ gx_ws) (hA : As.length = np) (hstk : st0 = As.reverse ++ rest) (hst : (rest.map fun v => v.category).sum ≤ 8) (hn : pc + 3 = n)
    (k : gx_J G M (d + 1) kc ks Q n lv rest h1) : gx_J G M (d + 1) kc ks Q pc lv st0 h :=
  J_callSx hS hK hd hw hw1 hA hstk hst hn (fun r h2 q => by obtain ⟨rfl, rfl⟩ := q; exact k)
theorem J_callSNr {y : MethodName} {M1 : gx_M} {np index : Nat} {As st0 : List Value} {v : Value} {h1 : gx_Hp} (hS : gx_St y M1 np) (hK : gx_D G y M1 d As h (some v) h1) (hd : decode M.2.1 pc = .ok (.invokestatic index, 3)) (hw : (M.1, index, y) ∈ gx_nest) (hw1 : Cond.static y ∈ gx_ws) (hA : As.length = np) (hstk : st0 = As.reverse ++ rest) (hst : (rest.map fun v => v.category).sum ≤ 8) (hn : pc + 3 = n)
    (k : gx_J G M (d + 1) kc ks Q n lv (v :: rest) h1) : gx_J G M (d + 1) kc ks Q pc lv st0 h :=
  J_callSNx hS hK hd hw hw1 hA hstk hst hn (fun r h2 q => by obtain ⟨rfl, rfl⟩ := q; exact k)
end GXC
