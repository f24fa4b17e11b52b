/-! ===== the judgement: a method's body from a place on, over a heap that is a function of addresses ===== -/
abbrev gx_cl : List vw_C := [(RX0, TX0, 3), (RX1, TX1, 3), (RX2, TX2, 4), (RX3, TX3, 2), (RX4, TX4, 10), (RX5, TX5, 11), (RX6, TX6, 9), (RX7, TX7, 30)]
def gx_ws : List Cond := lw_tbl.filter goodWord
theorem gx_good {w : Cond} (h : w ∈ gx_ws) : (w.onTables && w.keeps) = true ∨ ∃ ty, w = .arrayClass ty := good_of_word (List.mem_filter.mp h).2
theorem gx_in {w : Cond} (h1 : w ∈ lw_tbl) (h2 : goodWord w = true) : w ∈ gx_ws := List.mem_filter.mpr ⟨h1, h2⟩
theorem gx_goodIn {y : MethodName} {cc : ByteArray} {n : Nat} {rt : Option FieldType} (h : Cond.code y cc n rt ∈ gx_ws) : GoodIn gx_ws (Cond.code y cc n rt :: gx_ws) := fun w hw => by
  rcases List.mem_cons.mp hw with rfl | hw
  · exact ⟨h, gx_good h⟩
  · exact ⟨hw, gx_good hw⟩
/-- size, cells by address -/
abbrev gx_Hp : Type := Nat × (Nat → Option va_E)
def gx_up (h : gx_Hp) (a : Nat) (c : va_E) : gx_Hp := (h.1, fun q => if q = a then some c else h.2 q)
def gx_push (h : gx_Hp) (c : va_E) : gx_Hp := (h.1 + 1, fun q => if q = h.1 then some c else h.2 q)
/-- classes and slots, array classes, the heap at the law's start, the String constants' cells -/
abbrev gx_G : Type := va_G × (Nat → ClassId) × Heap × (Nat → Nat) × (Nat → Nat)
abbrev gx_N (G : gx_G) : Nat := G.2.2.1.size
def gx_tys (G : gx_G) : List (ClassId × FieldType) := [(G.2.1 0, .int), (G.2.1 1, .byte), (G.2.1 2, .boolean), (G.2.1 3, .object RX5), (G.2.1 4, .object RX0), (G.2.1 5, .object RX1)]
def gx_txt : List (Nat × String) := [(147, "signer"), (149, "dancer"), (151, "shy"), (153, "fame"), (155, "route"), (156, "man"), (157, "bold")]
def gx_byt : List (List Int32) := [[115, 105, 103, 110, 101, 114], [100, 97, 110, 99, 101, 114], [115, 104, 121], [102, 97, 109, 101], [114, 111, 117, 116, 101], [109, 97, 110], [98, 111, 108, 100]]
def gx_nest : List (String × Nat × MethodName) := [(RX6, 9, yX5_init), (RX6, 18, yX2_init), (RX6, 32, yX4_init), (RX4, 11, yX3_init), (RX4, 20, yX5_init), (RX6, 49, yX0_init), (RX0, 9, yX5_init), (RX0, 18, yX2_init), (RX6, 50, yX1_init), (RX5, 71, yX6_farOf), (RX1, 32, yX6_isWithin)]
def gx_over : List String := [RX5, RX0, RX1]
/-- the script, as it lies in the heap at the start -/
def gx_xs (G : gx_G) (j : Nat) : Int32 := match G.2.2.1[G.2.2.2.1 7]? with
  | some zc => match zc.slots[j]? with
    | some (.int x) => x
    | _ => 0
  | none => 0
def gx_I (G : gx_G) (U : State) : Prop := va_K G.1 gx_cl (gx_tys G) U ∧ (va_Z "java/lang/String" "COMPACT_STRINGS" "Z" (.int 1) (fun q => gx_N G ≤ q) U G.2.2.1 ∧ va_Zq "jdk/internal/util/Preconditions" "SIOOBE_FORMATTER" "Ljava/util/function/BiFunction;" (fun q => gx_N G ≤ q) U G.2.2.1 ∧ va_T .int (G.2.2.2.1 7) (G.2.2.2.2 7) (fun j => .int (gx_xs G j)) (fun q => gx_N G ≤ q) U G.2.2.1) ∧ vk_S 7 [6, 6, 3, 4, 5, 3, 4] gx_byt G.2.2.2.1 G.2.2.2.2 (fun q => gx_N G ≤ q) U G.2.2.1 ∧ (∀ i, i < 7 → vk_R RX4 (gx_txt.getD i (0, "")).1 (gx_txt.getD i (0, "")).2 (G.2.2.2.1 i) U) ∧ (∀ q ∈ gx_nest, va_Nw (.methodLinkNest q.1 q.2.1 q.2.2 RX6) U) ∧ ∀ C ∈ gx_over, va_AO C U
def gx_R (G : gx_G) (h : gx_Hp) (H : Heap) : Prop := H.size = h.1 ∧ gx_N G ≤ h.1 ∧ (∀ q, q < gx_N G → H[q]? = G.2.2.1[q]?) ∧ ∀ a c, h.2 a = some c → gx_N G ≤ a ∧ va_at G.1 gx_cl (a, c) H
/-- a method: its class, code, locals, answer's type, whether it makes an object -/
abbrev gx_M : Type := String × ByteArray × Nat × Option FieldType × Bool
def gx_At (G : gx_G) (M : gx_M) (d : Nat) (p : Program) (R : Room) (s : State) (m : MethodId) (args : Array Value) (meth : Method) (c : Code) : Prop :=
  p.tables.exec = Jvm.exec ∧ c.code = M.2.1 ∧ c.maxLocals = M.2.2.1 ∧ meth.sig.returnType = M.2.2.2.1 ∧ meth.locks = false ∧ s.vm.findClass M.1 = some m.cls ∧ (M.2.2.2.2 = true → meth.name = "<init>") ∧ (∀ w ∈ gx_ws, w.before args s = true) ∧ gx_I G s ∧ d ≤ R.frames ∧ 100 * d ≤ R.locals
def gx_Qc (G : gx_G) (Q : Option Value → gx_Hp → Prop) : Array Value → State → Outcome → State → Prop := fun _ _ o t => ∃ r h, o = .returned r ∧ Q r h ∧ gx_R G h t.heap
def gx_Pc (G : gx_G) (av : List Value) (h : gx_Hp) : Array Value → State → Prop := fun v U => v = av.toArray ∧ gx_I G U ∧ gx_R G h U.heap
def gx_J (G : gx_G) (M : gx_M) (d kc ks : Nat) (Q : Option Value → gx_Hp → Prop) (pc : Nat) (lv : List (Nat × Value)) (st : List Value) (h : gx_Hp) : Prop :=
  ∀ (p : Program) (l : Launch) (e : Env) (R : Room) (s : State) (m : MethodId) (args : Array Value) (below : List Frame) (meth : Method) (c : Code) (H : Heap) (locs : List Loc) (cells slots : Nat) (ls : Array Slot),
    gx_At G M d p R s m args meth c → gx_R G h H → (∀ q ∈ locs, gx_N G ≤ q.base) → lv_has ls M.2.2.1 lv → cells + kc ≤ R.cells → slots + ks ≤ R.slots →
    W p l e R s m args below meth c H locs cells slots (MQ below (gx_Qc G Q) args s R.cells R.slots (fun a => gx_N G ≤ a)) (F0 m pc ls st)
def gx_K (G : gx_G) (y : MethodName) (M : gx_M) (d mc ms : Nat) (av : List Value) (h : gx_Hp) (Q : Option Value → gx_Hp → Prop) : Prop :=
  ∀ (l : Launch) (rm : Room), rm.frames = d → rm.locals = 100 * d → rm.cells = mc → rm.slots = ms → Met l y (Cond.code y M.2.1 M.2.2.1 M.2.2.2.1 :: gx_ws) rm (gx_Pc G av h) (gx_Qc G Q) mc ms (fun a => gx_N G ≤ a)
def gl_get : List (Nat × Value) → Nat → Option Value
  | [], _ => none
  | q :: t, i => if q.1 = i then some q.2 else gl_get t i
theorem gl_get_mem {lv : List (Nat × Value)} {i : Nat} {v : Value} (h : gl_get lv i = some v) : (i, v) ∈ lv := by
  induction lv with
  | nil => cases h
  | cons q t ih =>
    unfold gl_get at h
    split at h
    · next hq => cases h; subst hq; exact List.mem_cons_self
    · exact List.mem_cons_of_mem _ (ih h)
def gl_ins (i : Nat) (v : Value) : List (Nat × Value) → List (Nat × Value)
  | [] => [(i, v)]
  | q :: t => if i < q.1 then (i, v) :: q :: t else q :: gl_ins i v t
theorem gl_ins_mem {i : Nat} {v : Value} {lv : List (Nat × Value)} {q : Nat × Value} (h : q ∈ gl_ins i v lv) : q ∈ (i, v) :: lv := by
  induction lv with
  | nil => exact h
  | cons x t ih =>
    unfold gl_ins at h
    split at h
    · exact h
    · rcases List.mem_cons.mp h with h | h
      · subst h; exact List.mem_cons_of_mem _ List.mem_cons_self
      · rcases List.mem_cons.mp (ih h) with h | h
        · rw [h]; exact List.mem_cons_self
        · exact List.mem_cons_of_mem _ (List.mem_cons_of_mem _ h)
def gl_put1 (i : Nat) (v : Value) (lv : List (Nat × Value)) : List (Nat × Value) := gl_ins i v (lv.filter (fun q => !(q.1 == i) && !(q.1 + 1 == i && q.2.category == 2)))
def gl_put2 (i : Nat) (v : Value) (lv : List (Nat × Value)) : List (Nat × Value) := gl_ins i v (lv.filter (fun q => !(q.1 == i) && (!(q.1 == i + 1) && !(q.1 + 1 == i && q.2.category == 2))))
theorem gl_sub {ls : Array Slot} {n : Nat} {lv lv' : List (Nat × Value)} (h : lv_has ls n lv) (hs : ∀ q ∈ lv', q ∈ lv) : lv_has ls n lv' := ⟨h.1, h.2.1, fun q hq => h.2.2 q (hs q hq)⟩
theorem gx_I.moved {G : gx_G} {u U : State} (hW : u.WarmedH U.vm) (h : gx_I G u) : gx_I G U :=
  ⟨va_K.moved hW.alike h.1, ⟨h.2.1.1.moved hW.alike, h.2.1.2.1.moved hW.alike, h.2.1.2.2.moved hW.alike⟩, h.2.2.1.moved hW.alike, fun i hi => (h.2.2.2.1 i hi).warm hW, fun q hq => (h.2.2.2.2.1 q hq).warmM hW, fun C hC => (h.2.2.2.2.2 C hC).moved hW.alike⟩
theorem gx_I.same {G : gx_G} {u U : State} (hv : U.vm = u.vm) (h : gx_I G u) : gx_I G U :=
  ⟨va_K.moved (by rw [hv]; exact Vm.Alike.refl _) h.1, ⟨h.2.1.1.moved (by rw [hv]; exact Vm.Alike.refl _), h.2.1.2.1.moved (by rw [hv]; exact Vm.Alike.refl _), h.2.1.2.2.moved (by rw [hv]; exact Vm.Alike.refl _)⟩, h.2.2.1.moved (by rw [hv]; exact Vm.Alike.refl _), fun i hi => (h.2.2.2.1 i hi).same hv, fun q hq => (h.2.2.2.2.1 q hq).same rfl hv.symm, fun C hC => (h.2.2.2.2.2 C hC).moved (by rw [hv]; exact Vm.Alike.refl _)⟩
theorem gx_blind (G : gx_G) (av : List Value) (h : gx_Hp) : FrameBlind (gx_Pc G av h) := fun a U g mk q => by
  obtain ⟨q1, q2, q3⟩ := q
  exact ⟨q1, gx_I.same (u := U) (U := U.calling g mk a) rfl q2, q3⟩
theorem gx_R.put {G : gx_G} {h : gx_Hp} {H H1 : Heap} {a : Nat} {c : va_E} (hR : gx_R G h H) (ha : gx_N G ≤ a) (z : H1.size = H.size) (oq : ∀ q : Nat, q ≠ a → H1[q]? = H[q]?) (hc : va_at G.1 gx_cl (a, c) H1) : gx_R G (gx_up h a c) H1 := by
  obtain ⟨r1, r2, r3, r4⟩ := hR
  refine ⟨z.trans r1, r2, fun q hq => ?_, fun q x hx => ?_⟩
  · rw [oq q (by omega)]; exact r3 q hq
  · simp only [gx_up] at hx
    split at hx
    · next e => cases hx; subst e; exact ⟨ha, hc⟩
    · next e => exact ⟨(r4 q x hx).1, (r4 q x hx).2.kept (oq q e)⟩
theorem gx_R.push {G : gx_G} {h : gx_Hp} {H H1 : Heap} {c : va_E} (hR : gx_R G h H) (z : H1.size = H.size + 1) (oq : ∀ q : Nat, q < H.size → H1[q]? = H[q]?) (hc : va_at G.1 gx_cl (H.size, c) H1) : gx_R G (gx_push h c) H1 := by
  obtain ⟨r1, r2, r3, r4⟩ := hR
  refine ⟨by simp only [gx_push]; omega, by simp only [gx_push]; omega, fun q hq => ?_, fun q x hx => ?_⟩
  · rw [oq q (by omega)]; exact r3 q hq
  · simp only [gx_push] at hx
    split at hx
    · next e => cases hx; subst e; rw [← r1]; exact ⟨by omega, hc⟩
    · next e => exact ⟨(r4 q x hx).1, (r4 q x hx).2.kept (oq q ((r4 q x hx).2.lt))⟩
section GXJ
variable {G : gx_G} {M : gx_M} {d kc ks : Nat} {Q : Option Value → gx_Hp → Prop} {pc n : Nat} {lv : List (Nat × Value)} {rest : List Value} {h : gx_Hp}
theorem J_iconst {z : Int} {v : Int32} (hd : decode M.2.1 pc = .ok (.iconst z, 1)) (hv : Int32.ofInt z = v) (hn : pc + 1 = n) (k : gx_J G M d kc ks Q n lv (.int v :: rest) h) : gx_J G M d kc ks Q pc lv (rest) h := by
  subst hn
  intro p l e R s m args below meth c H locs cells slots ls A hR hL hl hc hs
  exact lv_iconst A.1 A.2.1 hd hv (k p l e R s m args below meth c H locs cells slots ls A hR hL hl hc hs)
theorem J_bipush {z : Int} {v : Int32} (hd : decode M.2.1 pc = .ok (.bipush z, 2)) (hv : (Int8.ofInt z).toInt32 = v) (hn : pc + 2 = n) (k : gx_J G M d kc ks Q n lv (.int v :: rest) h) : gx_J G M d kc ks Q pc lv (rest) h := by
  subst hn
  intro p l e R s m args below meth c H locs cells slots ls A hR hL hl hc hs
  exact lv_bipush A.1 A.2.1 hd hv (k p l e R s m args below meth c H locs cells slots ls A hR hL hl hc hs)
theorem J_sipush {z : Int} {v : Int32} (hd : decode M.2.1 pc = .ok (.sipush z, 3)) (hv : (Int16.ofInt z).toInt32 = v) (hn : pc + 3 = n) (k : gx_J G M d kc ks Q n lv (.int v :: rest) h) : gx_J G M d kc ks Q pc lv (rest) h := by
  subst hn
  intro p l e R s m args below meth c H locs cells slots ls A hR hL hl hc hs
  exact lv_sipush A.1 A.2.1 hd hv (k p l e R s m args below meth c H locs cells slots ls A hR hL hl hc hs)
theorem J_lconst {z : Fin 2} {v : Int64} (hd : decode M.2.1 pc = .ok (.lconst z, 1)) (hv : Int64.ofNat (z : Nat) = v) (hn : pc + 1 = n) (k : gx_J G M d kc ks Q n lv (.long v :: rest) h) : gx_J G M d kc ks Q pc lv (rest) h := by
  subst hn
  intro p l e R s m args below meth c H locs cells slots ls A hR hL hl hc hs
  exact lv_lconst A.1 A.2.1 hd hv (k p l e R s m args below meth c H locs cells slots ls A hR hL hl hc hs)
theorem J_iload_n {z : Fin 4} {i : Nat} {x : Int32} (hd : decode M.2.1 pc = .ok (.iload_n z, 1)) (hi : (z : Nat) = i) (hv : gl_get lv i = some (.int x)) (hn : pc + 1 = n) (k : gx_J G M d kc ks Q n lv (.int x :: rest) h) : gx_J G M d kc ks Q pc lv (rest) h := by
  subst hn
  intro p l e R s m args below meth c H locs cells slots ls A hR hL hl hc hs
  exact lv_iload_n A.1 A.2.1 hd hi (hl.2.2 _ (gl_get_mem hv)) (k p l e R s m args below meth c H locs cells slots ls A hR hL hl hc hs)
theorem J_iload {i : Nat} {x : Int32} (hd : decode M.2.1 pc = .ok (.iload i, 2)) (hv : gl_get lv i = some (.int x)) (hn : pc + 2 = n) (k : gx_J G M d kc ks Q n lv (.int x :: rest) h) : gx_J G M d kc ks Q pc lv (rest) h := by
  subst hn
  intro p l e R s m args below meth c H locs cells slots ls A hR hL hl hc hs
  exact lv_iload A.1 A.2.1 hd (hl.2.2 _ (gl_get_mem hv)) (k p l e R s m args below meth c H locs cells slots ls A hR hL hl hc hs)
theorem J_istore_n {z : Fin 4} {i : Nat} {x : Int32} {lv' : List (Nat × Value)} (hd : decode M.2.1 pc = .ok (.istore_n z, 1)) (hi : (z : Nat) = i) (hb : i < M.2.2.1) (hv : gl_put1 i (.int x) lv = lv') (hn : pc + 1 = n) (k : gx_J G M d kc ks Q n lv' rest h) : gx_J G M d kc ks Q pc lv (.int x :: rest) h := by
  subst hn
  intro p l e R s m args below meth c H locs cells slots ls A hR hL hl hc hs
  exact lv_istore_n A.1 A.2.1 hd hi hl hb rfl (fun ls2 hl2 => k p l e R s m args below meth c H locs cells slots ls2 A hR hL (gl_sub hl2 (fun q hq => gl_ins_mem (by rw [← hv] at hq; exact hq))) hc hs)
theorem J_istore {i : Nat} {x : Int32} {lv' : List (Nat × Value)} (hd : decode M.2.1 pc = .ok (.istore i, 2)) (hb : i < M.2.2.1) (hv : gl_put1 i (.int x) lv = lv') (hn : pc + 2 = n) (k : gx_J G M d kc ks Q n lv' rest h) : gx_J G M d kc ks Q pc lv (.int x :: rest) h := by
  subst hn
  intro p l e R s m args below meth c H locs cells slots ls A hR hL hl hc hs
  exact lv_istore A.1 A.2.1 hd hl hb rfl (fun ls2 hl2 => k p l e R s m args below meth c H locs cells slots ls2 A hR hL (gl_sub hl2 (fun q hq => gl_ins_mem (by rw [← hv] at hq; exact hq))) hc hs)
theorem J_lload_n {z : Fin 4} {i : Nat} {x : Int64} (hd : decode M.2.1 pc = .ok (.lload_n z, 1)) (hi : (z : Nat) = i) (hv : gl_get lv i = some (.long x)) (hn : pc + 1 = n) (k : gx_J G M d kc ks Q n lv (.long x :: rest) h) : gx_J G M d kc ks Q pc lv (rest) h := by
  subst hn
  intro p l e R s m args below meth c H locs cells slots ls A hR hL hl hc hs
  exact lv_lload_n A.1 A.2.1 hd hi (hl.2.2 _ (gl_get_mem hv)) (k p l e R s m args below meth c H locs cells slots ls A hR hL hl hc hs)
theorem J_lload {i : Nat} {x : Int64} (hd : decode M.2.1 pc = .ok (.lload i, 2)) (hv : gl_get lv i = some (.long x)) (hn : pc + 2 = n) (k : gx_J G M d kc ks Q n lv (.long x :: rest) h) : gx_J G M d kc ks Q pc lv (rest) h := by
  subst hn
  intro p l e R s m args below meth c H locs cells slots ls A hR hL hl hc hs
  exact lv_lload A.1 A.2.1 hd (hl.2.2 _ (gl_get_mem hv)) (k p l e R s m args below meth c H locs cells slots ls A hR hL hl hc hs)
theorem J_lstore_n {z : Fin 4} {i : Nat} {x : Int64} {lv' : List (Nat × Value)} (hd : decode M.2.1 pc = .ok (.lstore_n z, 1)) (hi : (z : Nat) = i) (hb : i + 1 < M.2.2.1) (hv : gl_put2 i (.long x) lv = lv') (hn : pc + 1 = n) (k : gx_J G M d kc ks Q n lv' rest h) : gx_J G M d kc ks Q pc lv (.long x :: rest) h := by
  subst hn
  intro p l e R s m args below meth c H locs cells slots ls A hR hL hl hc hs
  exact lv_lstore_n A.1 A.2.1 hd hi hl hb rfl (fun ls2 hl2 => k p l e R s m args below meth c H locs cells slots ls2 A hR hL (gl_sub hl2 (fun q hq => gl_ins_mem (by rw [← hv] at hq; exact hq))) hc hs)
theorem J_lstore {i : Nat} {x : Int64} {lv' : List (Nat × Value)} (hd : decode M.2.1 pc = .ok (.lstore i, 2)) (hb : i + 1 < M.2.2.1) (hv : gl_put2 i (.long x) lv = lv') (hn : pc + 2 = n) (k : gx_J G M d kc ks Q n lv' rest h) : gx_J G M d kc ks Q pc lv (.long x :: rest) h := by
  subst hn
  intro p l e R s m args below meth c H locs cells slots ls A hR hL hl hc hs
  exact lv_lstore A.1 A.2.1 hd hl hb rfl (fun ls2 hl2 => k p l e R s m args below meth c H locs cells slots ls2 A hR hL (gl_sub hl2 (fun q hq => gl_ins_mem (by rw [← hv] at hq; exact hq))) hc hs)
theorem J_aload_n {z : Fin 4} {i : Nat} {x : Nat} (hd : decode M.2.1 pc = .ok (.aload_n z, 1)) (hi : (z : Nat) = i) (hv : gl_get lv i = some (.ref x)) (hn : pc + 1 = n) (k : gx_J G M d kc ks Q n lv (.ref x :: rest) h) : gx_J G M d kc ks Q pc lv (rest) h := by
  subst hn
  intro p l e R s m args below meth c H locs cells slots ls A hR hL hl hc hs
  exact lv_aload_n A.1 A.2.1 hd hi (hl.2.2 _ (gl_get_mem hv)) (k p l e R s m args below meth c H locs cells slots ls A hR hL hl hc hs)
theorem J_aload {i : Nat} {x : Nat} (hd : decode M.2.1 pc = .ok (.aload i, 2)) (hv : gl_get lv i = some (.ref x)) (hn : pc + 2 = n) (k : gx_J G M d kc ks Q n lv (.ref x :: rest) h) : gx_J G M d kc ks Q pc lv (rest) h := by
  subst hn
  intro p l e R s m args below meth c H locs cells slots ls A hR hL hl hc hs
  exact lv_aload A.1 A.2.1 hd (hl.2.2 _ (gl_get_mem hv)) (k p l e R s m args below meth c H locs cells slots ls A hR hL hl hc hs)
theorem J_astore_n {z : Fin 4} {i : Nat} {x : Nat} {lv' : List (Nat × Value)} (hd : decode M.2.1 pc = .ok (.astore_n z, 1)) (hi : (z : Nat) = i) (hb : i < M.2.2.1) (hv : gl_put1 i (.ref x) lv = lv') (hn : pc + 1 = n) (k : gx_J G M d kc ks Q n lv' rest h) : gx_J G M d kc ks Q pc lv (.ref x :: rest) h := by
  subst hn
  intro p l e R s m args below meth c H locs cells slots ls A hR hL hl hc hs
  exact lv_astore_n A.1 A.2.1 hd hi hl hb rfl (fun ls2 hl2 => k p l e R s m args below meth c H locs cells slots ls2 A hR hL (gl_sub hl2 (fun q hq => gl_ins_mem (by rw [← hv] at hq; exact hq))) hc hs)
theorem J_astore {i : Nat} {x : Nat} {lv' : List (Nat × Value)} (hd : decode M.2.1 pc = .ok (.astore i, 2)) (hb : i < M.2.2.1) (hv : gl_put1 i (.ref x) lv = lv') (hn : pc + 2 = n) (k : gx_J G M d kc ks Q n lv' rest h) : gx_J G M d kc ks Q pc lv (.ref x :: rest) h := by
  subst hn
  intro p l e R s m args below meth c H locs cells slots ls A hR hL hl hc hs
  exact lv_astore A.1 A.2.1 hd hl hb rfl (fun ls2 hl2 => k p l e R s m args below meth c H locs cells slots ls2 A hR hL (gl_sub hl2 (fun q hq => gl_ins_mem (by rw [← hv] at hq; exact hq))) hc hs)
theorem J_iinc {i : Nat} {z : Int} {x v : Int32} {lv' : List (Nat × Value)} (hd : decode M.2.1 pc = .ok (.iinc i z, 3)) (hx : gl_get lv i = some (.int x)) (hz : x + Int32.ofInt z = v) (hb : i < M.2.2.1) (hv : gl_put1 i (.int v) lv = lv') (hn : pc + 3 = n) (k : gx_J G M d kc ks Q n lv' rest h) : gx_J G M d kc ks Q pc lv rest h := by
  subst hn
  intro p l e R s m args below meth c H locs cells slots ls A hR hL hl hc hs
  obtain ⟨j, hj⟩ := List.getElem?_of_mem (gl_get_mem hx)
  exact lv_iinc A.1 A.2.1 hd hl hj hz hb rfl (fun ls2 hl2 => k p l e R s m args below meth c H locs cells slots ls2 A hR hL (gl_sub hl2 (fun q hq => gl_ins_mem (by rw [← hv] at hq; exact hq))) hc hs)
theorem J_iadd {x y : Int32} (hd : decode M.2.1 pc = .ok (.iadd, 1)) (hn : pc + 1 = n) (k : gx_J G M d kc ks Q n lv (.int (x + y) :: rest) h) : gx_J G M d kc ks Q pc lv (.int y :: .int x :: rest) h := by
  subst hn
  intro p l e R s m args below meth c H locs cells slots ls A hR hL hl hc hs
  exact lv_iadd A.1 A.2.1 hd (k p l e R s m args below meth c H locs cells slots ls A hR hL hl hc hs)
theorem J_isub {x y : Int32} (hd : decode M.2.1 pc = .ok (.isub, 1)) (hn : pc + 1 = n) (k : gx_J G M d kc ks Q n lv (.int (x - y) :: rest) h) : gx_J G M d kc ks Q pc lv (.int y :: .int x :: rest) h := by
  subst hn
  intro p l e R s m args below meth c H locs cells slots ls A hR hL hl hc hs
  exact lv_isub A.1 A.2.1 hd (k p l e R s m args below meth c H locs cells slots ls A hR hL hl hc hs)
theorem J_imul {x y : Int32} (hd : decode M.2.1 pc = .ok (.imul, 1)) (hn : pc + 1 = n) (k : gx_J G M d kc ks Q n lv (.int (x * y) :: rest) h) : gx_J G M d kc ks Q pc lv (.int y :: .int x :: rest) h := by
  subst hn
  intro p l e R s m args below meth c H locs cells slots ls A hR hL hl hc hs
  exact lv_imul A.1 A.2.1 hd (k p l e R s m args below meth c H locs cells slots ls A hR hL hl hc hs)
theorem J_iand {x y : Int32} (hd : decode M.2.1 pc = .ok (.iand, 1)) (hn : pc + 1 = n) (k : gx_J G M d kc ks Q n lv (.int (x &&& y) :: rest) h) : gx_J G M d kc ks Q pc lv (.int y :: .int x :: rest) h := by
  subst hn
  intro p l e R s m args below meth c H locs cells slots ls A hR hL hl hc hs
  exact lv_iand A.1 A.2.1 hd (k p l e R s m args below meth c H locs cells slots ls A hR hL hl hc hs)
theorem J_ior {x y : Int32} (hd : decode M.2.1 pc = .ok (.ior, 1)) (hn : pc + 1 = n) (k : gx_J G M d kc ks Q n lv (.int (x ||| y) :: rest) h) : gx_J G M d kc ks Q pc lv (.int y :: .int x :: rest) h := by
  subst hn
  intro p l e R s m args below meth c H locs cells slots ls A hR hL hl hc hs
  exact lv_ior A.1 A.2.1 hd (k p l e R s m args below meth c H locs cells slots ls A hR hL hl hc hs)
theorem J_ixor {x y : Int32} (hd : decode M.2.1 pc = .ok (.ixor, 1)) (hn : pc + 1 = n) (k : gx_J G M d kc ks Q n lv (.int (x ^^^ y) :: rest) h) : gx_J G M d kc ks Q pc lv (.int y :: .int x :: rest) h := by
  subst hn
  intro p l e R s m args below meth c H locs cells slots ls A hR hL hl hc hs
  exact lv_ixor A.1 A.2.1 hd (k p l e R s m args below meth c H locs cells slots ls A hR hL hl hc hs)
theorem J_ishl {x y : Int32} (hd : decode M.2.1 pc = .ok (.ishl, 1)) (hn : pc + 1 = n) (k : gx_J G M d kc ks Q n lv (.int (x <<< (y &&& 31)) :: rest) h) : gx_J G M d kc ks Q pc lv (.int y :: .int x :: rest) h := by
  subst hn
  intro p l e R s m args below meth c H locs cells slots ls A hR hL hl hc hs
  exact lv_ishl A.1 A.2.1 hd (k p l e R s m args below meth c H locs cells slots ls A hR hL hl hc hs)
theorem J_ishr {x y : Int32} (hd : decode M.2.1 pc = .ok (.ishr, 1)) (hn : pc + 1 = n) (k : gx_J G M d kc ks Q n lv (.int (x >>> (y &&& 31)) :: rest) h) : gx_J G M d kc ks Q pc lv (.int y :: .int x :: rest) h := by
  subst hn
  intro p l e R s m args below meth c H locs cells slots ls A hR hL hl hc hs
  exact lv_ishr A.1 A.2.1 hd (k p l e R s m args below meth c H locs cells slots ls A hR hL hl hc hs)
theorem J_ladd {x y : Int64} (hd : decode M.2.1 pc = .ok (.ladd, 1)) (hn : pc + 1 = n) (k : gx_J G M d kc ks Q n lv (.long (x + y) :: rest) h) : gx_J G M d kc ks Q pc lv (.long y :: .long x :: rest) h := by
  subst hn
  intro p l e R s m args below meth c H locs cells slots ls A hR hL hl hc hs
  exact lv_ladd A.1 A.2.1 hd (k p l e R s m args below meth c H locs cells slots ls A hR hL hl hc hs)
theorem J_lsub {x y : Int64} (hd : decode M.2.1 pc = .ok (.lsub, 1)) (hn : pc + 1 = n) (k : gx_J G M d kc ks Q n lv (.long (x - y) :: rest) h) : gx_J G M d kc ks Q pc lv (.long y :: .long x :: rest) h := by
  subst hn
  intro p l e R s m args below meth c H locs cells slots ls A hR hL hl hc hs
  exact lv_lsub A.1 A.2.1 hd (k p l e R s m args below meth c H locs cells slots ls A hR hL hl hc hs)
theorem J_lmul {x y : Int64} (hd : decode M.2.1 pc = .ok (.lmul, 1)) (hn : pc + 1 = n) (k : gx_J G M d kc ks Q n lv (.long (x * y) :: rest) h) : gx_J G M d kc ks Q pc lv (.long y :: .long x :: rest) h := by
  subst hn
  intro p l e R s m args below meth c H locs cells slots ls A hR hL hl hc hs
  exact lv_lmul A.1 A.2.1 hd (k p l e R s m args below meth c H locs cells slots ls A hR hL hl hc hs)
theorem J_irem {x y : Int32} (hd : decode M.2.1 pc = .ok (.irem, 1)) (hy : ¬ y = 0) (hn : pc + 1 = n) (k : gx_J G M d kc ks Q n lv (.int (x - x / y * y) :: rest) h) : gx_J G M d kc ks Q pc lv (.int y :: .int x :: rest) h := by
  subst hn
  intro p l e R s m args below meth c H locs cells slots ls A hR hL hl hc hs
  exact lv_irem A.1 A.2.1 hd hy (k p l e R s m args below meth c H locs cells slots ls A hR hL hl hc hs)
theorem J_idiv {x y : Int32} (hd : decode M.2.1 pc = .ok (.idiv, 1)) (hy : ¬ y = 0) (hn : pc + 1 = n) (k : gx_J G M d kc ks Q n lv (.int (x / y) :: rest) h) : gx_J G M d kc ks Q pc lv (.int y :: .int x :: rest) h := by
  subst hn
  intro p l e R s m args below meth c H locs cells slots ls A hR hL hl hc hs
  exact lv_idiv A.1 A.2.1 hd hy (k p l e R s m args below meth c H locs cells slots ls A hR hL hl hc hs)
theorem J_ldiv {x y : Int64} (hd : decode M.2.1 pc = .ok (.ldiv, 1)) (hy : ¬ y = 0) (hn : pc + 1 = n) (k : gx_J G M d kc ks Q n lv (.long (x / y) :: rest) h) : gx_J G M d kc ks Q pc lv (.long y :: .long x :: rest) h := by
  subst hn
  intro p l e R s m args below meth c H locs cells slots ls A hR hL hl hc hs
  exact lv_ldiv A.1 A.2.1 hd hy (k p l e R s m args below meth c H locs cells slots ls A hR hL hl hc hs)
theorem J_lrem {x y : Int64} (hd : decode M.2.1 pc = .ok (.lrem, 1)) (hy : ¬ y = 0) (hn : pc + 1 = n) (k : gx_J G M d kc ks Q n lv (.long (x - x / y * y) :: rest) h) : gx_J G M d kc ks Q pc lv (.long y :: .long x :: rest) h := by
  subst hn
  intro p l e R s m args below meth c H locs cells slots ls A hR hL hl hc hs
  exact lv_lrem A.1 A.2.1 hd hy (k p l e R s m args below meth c H locs cells slots ls A hR hL hl hc hs)
theorem J_ineg {x : Int32} (hd : decode M.2.1 pc = .ok (.ineg, 1)) (hn : pc + 1 = n) (k : gx_J G M d kc ks Q n lv (.int (-x) :: rest) h) : gx_J G M d kc ks Q pc lv (.int x :: rest) h := by
  subst hn
  intro p l e R s m args below meth c H locs cells slots ls A hR hL hl hc hs
  exact lv_ineg A.1 A.2.1 hd (k p l e R s m args below meth c H locs cells slots ls A hR hL hl hc hs)
theorem J_i2l {x : Int32} (hd : decode M.2.1 pc = .ok (.i2l, 1)) (hn : pc + 1 = n) (k : gx_J G M d kc ks Q n lv (.long x.toInt64 :: rest) h) : gx_J G M d kc ks Q pc lv (.int x :: rest) h := by
  subst hn
  intro p l e R s m args below meth c H locs cells slots ls A hR hL hl hc hs
  exact lv_i2l A.1 A.2.1 hd rfl (k p l e R s m args below meth c H locs cells slots ls A hR hL hl hc hs)
theorem J_i2b {x : Int32} (hd : decode M.2.1 pc = .ok (.i2b, 1)) (hn : pc + 1 = n) (k : gx_J G M d kc ks Q n lv (.int x.toInt8.toInt32 :: rest) h) : gx_J G M d kc ks Q pc lv (.int x :: rest) h := by
  subst hn
  intro p l e R s m args below meth c H locs cells slots ls A hR hL hl hc hs
  exact lv_i2b A.1 A.2.1 hd rfl (k p l e R s m args below meth c H locs cells slots ls A hR hL hl hc hs)
theorem J_i2s {x : Int32} (hd : decode M.2.1 pc = .ok (.i2s, 1)) (hn : pc + 1 = n) (k : gx_J G M d kc ks Q n lv (.int x.toInt16.toInt32 :: rest) h) : gx_J G M d kc ks Q pc lv (.int x :: rest) h := by
  subst hn
  intro p l e R s m args below meth c H locs cells slots ls A hR hL hl hc hs
  exact lv_i2s A.1 A.2.1 hd rfl (k p l e R s m args below meth c H locs cells slots ls A hR hL hl hc hs)
theorem J_i2c {x : Int32} (hd : decode M.2.1 pc = .ok (.i2c, 1)) (hn : pc + 1 = n) (k : gx_J G M d kc ks Q n lv (.int (x.toUInt32 % 65536).toInt32 :: rest) h) : gx_J G M d kc ks Q pc lv (.int x :: rest) h := by
  subst hn
  intro p l e R s m args below meth c H locs cells slots ls A hR hL hl hc hs
  exact lv_i2c A.1 A.2.1 hd rfl (k p l e R s m args below meth c H locs cells slots ls A hR hL hl hc hs)
theorem J_iushr {x y : Int32} (hd : decode M.2.1 pc = .ok (.iushr, 1)) (hn : pc + 1 = n) (k : gx_J G M d kc ks Q n lv (.int (x.toUInt32 >>> (y.toUInt32 &&& Int32.toUInt32 31)).toInt32 :: rest) h) : gx_J G M d kc ks Q pc lv (.int y :: .int x :: rest) h := by
  subst hn
  intro p l e R s m args below meth c H locs cells slots ls A hR hL hl hc hs
  exact lv_iushr A.1 A.2.1 hd rfl (k p l e R s m args below meth c H locs cells slots ls A hR hL hl hc hs)
theorem J_lcmp {x y : Int64} (hd : decode M.2.1 pc = .ok (.lcmp, 1)) (hn : pc + 1 = n) (k : gx_J G M d kc ks Q n lv (.int (lg_cmp x y) :: rest) h) : gx_J G M d kc ks Q pc lv (.long y :: .long x :: rest) h := by
  subst hn
  intro p l e R s m args below meth c H locs cells slots ls A hR hL hl hc hs
  exact W.lcmp A.1 A.2.1 hd (k p l e R s m args below meth c H locs cells slots ls A hR hL hl hc hs)
theorem J_dup {va : Value} (hd : decode M.2.1 pc = .ok (.dup, 1)) (hva : va.category = 1) (hn : pc + 1 = n) (k : gx_J G M d kc ks Q n lv (va :: va :: rest) h) : gx_J G M d kc ks Q pc lv (va :: rest) h := by
  subst hn
  intro p l e R s m args below meth c H locs cells slots ls A hR hL hl hc hs
  exact lv_dup A.1 A.2.1 hd hva (k p l e R s m args below meth c H locs cells slots ls A hR hL hl hc hs)
theorem J_pop {va : Value} (hd : decode M.2.1 pc = .ok (.pop, 1)) (hva : va.category = 1) (hn : pc + 1 = n) (k : gx_J G M d kc ks Q n lv (rest) h) : gx_J G M d kc ks Q pc lv (va :: rest) h := by
  subst hn
  intro p l e R s m args below meth c H locs cells slots ls A hR hL hl hc hs
  exact lv_pop A.1 A.2.1 hd hva (k p l e R s m args below meth c H locs cells slots ls A hR hL hl hc hs)
theorem J_dup2 {va vb : Value} (hd : decode M.2.1 pc = .ok (.dup2, 1)) (hva : va.category = 1) (hvb : vb.category = 1) (hn : pc + 1 = n) (k : gx_J G M d kc ks Q n lv (va :: vb :: va :: vb :: rest) h) : gx_J G M d kc ks Q pc lv (va :: vb :: rest) h := by
  subst hn
  intro p l e R s m args below meth c H locs cells slots ls A hR hL hl hc hs
  exact lv_dup2_11 A.1 A.2.1 hd hva hvb (k p l e R s m args below meth c H locs cells slots ls A hR hL hl hc hs)
theorem J_dup_x1 {va vb : Value} (hd : decode M.2.1 pc = .ok (.dup_x1, 1)) (hva : va.category = 1) (hvb : vb.category = 1) (hn : pc + 1 = n) (k : gx_J G M d kc ks Q n lv (va :: vb :: va :: rest) h) : gx_J G M d kc ks Q pc lv (va :: vb :: rest) h := by
  subst hn
  intro p l e R s m args below meth c H locs cells slots ls A hR hL hl hc hs
  exact lv_dup_x1 A.1 A.2.1 hd hva hvb (k p l e R s m args below meth c H locs cells slots ls A hR hL hl hc hs)
theorem J_if_eq {x : Int32} {off : Int} {tgt : Nat} (hd : decode M.2.1 pc = .ok (.ifCond .eq off, 3)) (ht : (pc : Int) + off = (tgt : Int)) (hn : pc + 3 = n) (kt : x = 0 → gx_J G M d kc ks Q tgt lv rest h) (kf : ¬ x = 0 → gx_J G M d kc ks Q n lv rest h) : gx_J G M d kc ks Q pc lv (.int x :: rest) h := by
  subst hn
  intro p l e R s m args below meth c H locs cells slots ls A hR hL hl hc hs
  exact lv_if_eq A.1 A.2.1 hd ht (fun q => kt q p l e R s m args below meth c H locs cells slots ls A hR hL hl hc hs) (fun q => kf q p l e R s m args below meth c H locs cells slots ls A hR hL hl hc hs)
theorem J_icmp_eq {x y : Int32} {off : Int} {tgt : Nat} (hd : decode M.2.1 pc = .ok (.if_icmp .eq off, 3)) (ht : (pc : Int) + off = (tgt : Int)) (hn : pc + 3 = n) (kt : x = y → gx_J G M d kc ks Q tgt lv rest h) (kf : ¬ x = y → gx_J G M d kc ks Q n lv rest h) : gx_J G M d kc ks Q pc lv (.int y :: .int x :: rest) h := by
  subst hn
  intro p l e R s m args below meth c H locs cells slots ls A hR hL hl hc hs
  exact lv_icmp_eq A.1 A.2.1 hd ht (fun q => kt q p l e R s m args below meth c H locs cells slots ls A hR hL hl hc hs) (fun q => kf q p l e R s m args below meth c H locs cells slots ls A hR hL hl hc hs)
theorem J_if_ne {x : Int32} {off : Int} {tgt : Nat} (hd : decode M.2.1 pc = .ok (.ifCond .ne off, 3)) (ht : (pc : Int) + off = (tgt : Int)) (hn : pc + 3 = n) (kt : ¬ x = 0 → gx_J G M d kc ks Q tgt lv rest h) (kf : x = 0 → gx_J G M d kc ks Q n lv rest h) : gx_J G M d kc ks Q pc lv (.int x :: rest) h := by
  subst hn
  intro p l e R s m args below meth c H locs cells slots ls A hR hL hl hc hs
  exact lv_if_ne A.1 A.2.1 hd ht (fun q => kt q p l e R s m args below meth c H locs cells slots ls A hR hL hl hc hs) (fun q => kf q p l e R s m args below meth c H locs cells slots ls A hR hL hl hc hs)
theorem J_icmp_ne {x y : Int32} {off : Int} {tgt : Nat} (hd : decode M.2.1 pc = .ok (.if_icmp .ne off, 3)) (ht : (pc : Int) + off = (tgt : Int)) (hn : pc + 3 = n) (kt : ¬ x = y → gx_J G M d kc ks Q tgt lv rest h) (kf : x = y → gx_J G M d kc ks Q n lv rest h) : gx_J G M d kc ks Q pc lv (.int y :: .int x :: rest) h := by
  subst hn
  intro p l e R s m args below meth c H locs cells slots ls A hR hL hl hc hs
  exact lv_icmp_ne A.1 A.2.1 hd ht (fun q => kt q p l e R s m args below meth c H locs cells slots ls A hR hL hl hc hs) (fun q => kf q p l e R s m args below meth c H locs cells slots ls A hR hL hl hc hs)
theorem J_if_lt {x : Int32} {off : Int} {tgt : Nat} (hd : decode M.2.1 pc = .ok (.ifCond .lt off, 3)) (ht : (pc : Int) + off = (tgt : Int)) (hn : pc + 3 = n) (kt : x < 0 → gx_J G M d kc ks Q tgt lv rest h) (kf : ¬ x < 0 → gx_J G M d kc ks Q n lv rest h) : gx_J G M d kc ks Q pc lv (.int x :: rest) h := by
  subst hn
  intro p l e R s m args below meth c H locs cells slots ls A hR hL hl hc hs
  exact lv_if_lt A.1 A.2.1 hd ht (fun q => kt q p l e R s m args below meth c H locs cells slots ls A hR hL hl hc hs) (fun q => kf q p l e R s m args below meth c H locs cells slots ls A hR hL hl hc hs)
theorem J_icmp_lt {x y : Int32} {off : Int} {tgt : Nat} (hd : decode M.2.1 pc = .ok (.if_icmp .lt off, 3)) (ht : (pc : Int) + off = (tgt : Int)) (hn : pc + 3 = n) (kt : x < y → gx_J G M d kc ks Q tgt lv rest h) (kf : ¬ x < y → gx_J G M d kc ks Q n lv rest h) : gx_J G M d kc ks Q pc lv (.int y :: .int x :: rest) h := by
  subst hn
  intro p l e R s m args below meth c H locs cells slots ls A hR hL hl hc hs
  exact lv_icmp_lt A.1 A.2.1 hd ht (fun q => kt q p l e R s m args below meth c H locs cells slots ls A hR hL hl hc hs) (fun q => kf q p l e R s m args below meth c H locs cells slots ls A hR hL hl hc hs)
theorem J_if_ge {x : Int32} {off : Int} {tgt : Nat} (hd : decode M.2.1 pc = .ok (.ifCond .ge off, 3)) (ht : (pc : Int) + off = (tgt : Int)) (hn : pc + 3 = n) (kt : 0 ≤ x → gx_J G M d kc ks Q tgt lv rest h) (kf : ¬ 0 ≤ x → gx_J G M d kc ks Q n lv rest h) : gx_J G M d kc ks Q pc lv (.int x :: rest) h := by
  subst hn
  intro p l e R s m args below meth c H locs cells slots ls A hR hL hl hc hs
  exact lv_if_ge A.1 A.2.1 hd ht (fun q => kt q p l e R s m args below meth c H locs cells slots ls A hR hL hl hc hs) (fun q => kf q p l e R s m args below meth c H locs cells slots ls A hR hL hl hc hs)
theorem J_icmp_ge {x y : Int32} {off : Int} {tgt : Nat} (hd : decode M.2.1 pc = .ok (.if_icmp .ge off, 3)) (ht : (pc : Int) + off = (tgt : Int)) (hn : pc + 3 = n) (kt : y ≤ x → gx_J G M d kc ks Q tgt lv rest h) (kf : ¬ y ≤ x → gx_J G M d kc ks Q n lv rest h) : gx_J G M d kc ks Q pc lv (.int y :: .int x :: rest) h := by
  subst hn
  intro p l e R s m args below meth c H locs cells slots ls A hR hL hl hc hs
  exact lv_icmp_ge A.1 A.2.1 hd ht (fun q => kt q p l e R s m args below meth c H locs cells slots ls A hR hL hl hc hs) (fun q => kf q p l e R s m args below meth c H locs cells slots ls A hR hL hl hc hs)
theorem J_if_gt {x : Int32} {off : Int} {tgt : Nat} (hd : decode M.2.1 pc = .ok (.ifCond .gt off, 3)) (ht : (pc : Int) + off = (tgt : Int)) (hn : pc + 3 = n) (kt : 0 < x → gx_J G M d kc ks Q tgt lv rest h) (kf : ¬ 0 < x → gx_J G M d kc ks Q n lv rest h) : gx_J G M d kc ks Q pc lv (.int x :: rest) h := by
  subst hn
  intro p l e R s m args below meth c H locs cells slots ls A hR hL hl hc hs
  exact lv_if_gt A.1 A.2.1 hd ht (fun q => kt q p l e R s m args below meth c H locs cells slots ls A hR hL hl hc hs) (fun q => kf q p l e R s m args below meth c H locs cells slots ls A hR hL hl hc hs)
theorem J_icmp_gt {x y : Int32} {off : Int} {tgt : Nat} (hd : decode M.2.1 pc = .ok (.if_icmp .gt off, 3)) (ht : (pc : Int) + off = (tgt : Int)) (hn : pc + 3 = n) (kt : y < x → gx_J G M d kc ks Q tgt lv rest h) (kf : ¬ y < x → gx_J G M d kc ks Q n lv rest h) : gx_J G M d kc ks Q pc lv (.int y :: .int x :: rest) h := by
  subst hn
  intro p l e R s m args below meth c H locs cells slots ls A hR hL hl hc hs
  exact lv_icmp_gt A.1 A.2.1 hd ht (fun q => kt q p l e R s m args below meth c H locs cells slots ls A hR hL hl hc hs) (fun q => kf q p l e R s m args below meth c H locs cells slots ls A hR hL hl hc hs)
theorem J_if_le {x : Int32} {off : Int} {tgt : Nat} (hd : decode M.2.1 pc = .ok (.ifCond .le off, 3)) (ht : (pc : Int) + off = (tgt : Int)) (hn : pc + 3 = n) (kt : x ≤ 0 → gx_J G M d kc ks Q tgt lv rest h) (kf : ¬ x ≤ 0 → gx_J G M d kc ks Q n lv rest h) : gx_J G M d kc ks Q pc lv (.int x :: rest) h := by
  subst hn
  intro p l e R s m args below meth c H locs cells slots ls A hR hL hl hc hs
  exact lv_if_le A.1 A.2.1 hd ht (fun q => kt q p l e R s m args below meth c H locs cells slots ls A hR hL hl hc hs) (fun q => kf q p l e R s m args below meth c H locs cells slots ls A hR hL hl hc hs)
theorem J_icmp_le {x y : Int32} {off : Int} {tgt : Nat} (hd : decode M.2.1 pc = .ok (.if_icmp .le off, 3)) (ht : (pc : Int) + off = (tgt : Int)) (hn : pc + 3 = n) (kt : x ≤ y → gx_J G M d kc ks Q tgt lv rest h) (kf : ¬ x ≤ y → gx_J G M d kc ks Q n lv rest h) : gx_J G M d kc ks Q pc lv (.int y :: .int x :: rest) h := by
  subst hn
  intro p l e R s m args below meth c H locs cells slots ls A hR hL hl hc hs
  exact lv_icmp_le A.1 A.2.1 hd ht (fun q => kt q p l e R s m args below meth c H locs cells slots ls A hR hL hl hc hs) (fun q => kf q p l e R s m args below meth c H locs cells slots ls A hR hL hl hc hs)
theorem J_goto {off : Int} {tgt : Nat} (hd : decode M.2.1 pc = .ok (.goto off, 3)) (ht : (pc : Int) + off = (tgt : Int)) (k : gx_J G M d kc ks Q tgt lv rest h) : gx_J G M d kc ks Q pc lv rest h := by
  intro p l e R s m args below meth c H locs cells slots ls A hR hL hl hc hs
  exact lv_goto A.1 A.2.1 hd ht (k p l e R s m args below meth c H locs cells slots ls A hR hL hl hc hs)
theorem J_lookup {dflt : Int} {ps : Array (Int × Int)} {len : Nat} {x : Int32} {off : Int} {tgt : Nat} (hd : decode M.2.1 pc = .ok (.lookupswitch dflt ps, len)) (hp : (ps.toList.zip (ps.toList.drop 1)).all (fun (a, next) => a.1 < next.1) = true) (ho : Op.lookupswitch.offset ps.toList dflt x.toInt = off) (ht : (pc : Int) + off = (tgt : Int)) (k : gx_J G M d kc ks Q tgt lv rest h) : gx_J G M d kc ks Q pc lv (.int x :: rest) h := by
  intro p l e R s m args below meth c H locs cells slots ls A hR hL hl hc hs
  exact lv_lookup A.1 A.2.1 hd hp ho ht (k p l e R s m args below meth c H locs cells slots ls A hR hL hl hc hs)
theorem J_tableOut {dflt lo hi : Int} {offs : Array Int} {len : Nat} {x : Int32} {tgt : Nat} (hd : decode M.2.1 pc = .ok (.tableswitch dflt lo hi offs, len)) (hx : x.toInt < lo ∨ hi < x.toInt) (ht : (pc : Int) + dflt = (tgt : Int)) (k : gx_J G M d kc ks Q tgt lv rest h) : gx_J G M d kc ks Q pc lv (.int x :: rest) h := by
  intro p l e R s m args below meth c H locs cells slots ls A hR hL hl hc hs
  exact lv_tableOut A.1 A.2.1 hd hx ht (k p l e R s m args below meth c H locs cells slots ls A hR hL hl hc hs)
theorem J_tableIn {dflt lo hi : Int} {offs : Array Int} {len : Nat} {x : Int32} {off : Int} {tgt : Nat} (hd : decode M.2.1 pc = .ok (.tableswitch dflt lo hi offs, len)) (h1 : ¬ x.toInt < lo) (h2 : ¬ hi < x.toInt) (ho : offs[(x.toInt - lo).toNat]? = some off) (ht : (pc : Int) + off = (tgt : Int)) (k : gx_J G M d kc ks Q tgt lv rest h) : gx_J G M d kc ks Q pc lv (.int x :: rest) h := by
  intro p l e R s m args below meth c H locs cells slots ls A hR hL hl hc hs
  exact lv_tableIn A.1 A.2.1 hd h1 h2 ho ht (k p l e R s m args below meth c H locs cells slots ls A hR hL hl hc hs)
theorem J_ldc {index : Nat} {v : Int32} (hd : decode M.2.1 pc = .ok (.ldc index, 2)) (hw : Cond.constant M.1 index v ∈ gx_ws) (hn : pc + 2 = n) (k : gx_J G M d kc ks Q n lv (.int v :: rest) h) : gx_J G M d kc ks Q pc lv rest h := by
  subst hn
  intro p l e R s m args below meth c H locs cells slots ls A hR hL hl hc hs
  exact lv_ldc A.1 A.2.1 A.2.2.2.2.2.1 (A.2.2.2.2.2.2.2.1 _ hw) hd (k p l e R s m args below meth c H locs cells slots ls A hR hL hl hc hs)
theorem J_ldcw {index : Nat} {v : Int32} (hd : decode M.2.1 pc = .ok (.ldc_w index, 3)) (hw : Cond.constant M.1 index v ∈ gx_ws) (hn : pc + 3 = n) (k : gx_J G M d kc ks Q n lv (.int v :: rest) h) : gx_J G M d kc ks Q pc lv rest h := by
  subst hn
  intro p l e R s m args below meth c H locs cells slots ls A hR hL hl hc hs
  exact lv_ldcw A.1 A.2.1 A.2.2.2.2.2.1 (A.2.2.2.2.2.2.2.1 _ hw) hd (k p l e R s m args below meth c H locs cells slots ls A hR hL hl hc hs)
theorem J_ldc2 {index : Nat} {v : Int64} (hd : decode M.2.1 pc = .ok (.ldc2_w index, 3)) (hw : Cond.constantLong M.1 index v ∈ gx_ws) (hn : pc + 3 = n) (k : gx_J G M d kc ks Q n lv (.long v :: rest) h) : gx_J G M d kc ks Q pc lv rest h := by
  subst hn
  intro p l e R s m args below meth c H locs cells slots ls A hR hL hl hc hs
  exact lv_ldc2 A.1 A.2.1 A.2.2.2.2.2.1 (A.2.2.2.2.2.2.2.1 _ hw) hd (k p l e R s m args below meth c H locs cells slots ls A hR hL hl hc hs)
/-! returns -/
theorem J_iret {v : Int32} {ty : FieldType} (hd : decode M.2.1 pc = .ok (.ireturn, 1)) (hr : M.2.2.2.1 = some ty) (hv : narrow ty (.int v) = .int v) (hq : Q (some (.int v)) h) : gx_J G M d kc ks Q pc lv [.int v] h := by
  intro p l e R s m args below meth c H locs cells slots ls A hR hL hl hc hs
  have hlk : meth.locks = false := A.2.2.2.2.1
  refine W.widen (k := R.cells) (n := R.slots) (by omega) (by omega) ?_
  exact W.zret A.1 A.2.1 (A.2.2.2.1.trans hr) hv (fun t ht _ => ⟨_, h, rfl, hq, by rw [ht]; exact hR⟩) hL hd
theorem J_lret {v : Int64} (hd : decode M.2.1 pc = .ok (.lreturn, 1)) (hr : M.2.2.2.1 = some .long) (hq : Q (some (.long v)) h) : gx_J G M d kc ks Q pc lv [.long v] h := by
  intro p l e R s m args below meth c H locs cells slots ls A hR hL hl hc hs
  have hlk : meth.locks = false := A.2.2.2.2.1
  refine W.widen (k := R.cells) (n := R.slots) (by omega) (by omega) ?_
  exact W.lret A.1 A.2.1 (A.2.2.2.1.trans hr) (fun t ht _ => ⟨_, h, rfl, hq, by rw [ht]; exact hR⟩) hL hd
theorem J_aret {a : Nat} {rt : FieldType} (hd : decode M.2.1 pc = .ok (.areturn, 1)) (hr : M.2.2.2.1 = some rt) (hrt : (∃ n, rt = .object n) ∨ ∃ t, rt = .array t) (hq : Q (some (.ref a)) h) : gx_J G M d kc ks Q pc lv [.ref a] h := by
  intro p l e R s m args below meth c H locs cells slots ls A hR hL hl hc hs
  have hlk : meth.locks = false := A.2.2.2.2.1
  refine W.widen (k := R.cells) (n := R.slots) (by omega) (by omega) ?_
  exact W.aret A.1 A.2.1 (A.2.2.2.1.trans hr) hrt (Or.inr ⟨_, rfl⟩) (fun t ht _ => ⟨_, h, rfl, hq, by rw [ht]; exact hR⟩) hL hd
theorem J_vret (hd : decode M.2.1 pc = .ok (.return_, 1)) (hr : M.2.2.2.1 = none) (hq : Q none h) : gx_J G M d kc ks Q pc lv [] h := by
  intro p l e R s m args below meth c H locs cells slots ls A hR hL hl hc hs
  have hlk : meth.locks = false := A.2.2.2.2.1
  refine W.widen (k := R.cells) (n := R.slots) (by omega) (by omega) ?_
  exact W.vret A.1 A.2.1 (A.2.2.2.1.trans hr) (fun t ht _ => ⟨_, h, rfl, hq, by rw [ht]; exact hR⟩) hL hd
/-! fields and arrays -/
theorem gx_one {G : gx_G} {h : gx_Hp} {H : Heap} {a : Nat} {x : va_E} (hR : gx_R G h H) (ha : h.2 a = some x) : va_P G.1 gx_cl [(a, x)] H := fun k q hq => by
  rcases k with _ | k
  · cases hq; exact (hR.2.2.2 a x ha).2
  · cases hq
/-- what a class' rows of the tables say: of each class of gx_cl -/
def gx_clOk (ci : Nat) (C : String) (T : u_T) (N : Nat) (ty : Nat → FieldType) : Prop := gx_cl[ci]? = some (C, T, N) ∧ (∀ w ∈ u_ws C T N, w ∈ gx_ws) ∧ (∀ k, k < N → parseFieldDescriptor (T k).2.2.1 = some (ty k)) ∧ ∀ a, a < N → ∀ b, b < N → a ≠ b → (T a).2.1 ≠ (T b).2.1
theorem J_get {ci : Nat} {C : String} {T : u_T} {N : Nat} {ty : Nat → FieldType} (hcl : gx_clOk ci C T N ty) {index kk : Nat} {a : Nat} {fs : List Value} {v : Value} (hd : decode M.2.1 pc = .ok (.getfield index, 3)) (hw : Cond.fieldLink M.1 index (T kk).1 (T kk).2.1 (T kk).2.2.1 ∈ gx_ws) (hk : kk < N) (ha : h.2 a = some (.inr (ci, fs))) (hv : fs[kk]? = some v) (hn : pc + 3 = n) (k : gx_J G M d kc ks Q n lv (v :: rest) h) : gx_J G M d kc ks Q pc lv (.ref a :: rest) h := by
  subst hn
  intro p l e R s m args below meth c H locs cells slots ls A hR hL hl hc hs
  exact va_get A.1 A.2.1 A.2.2.2.2.2.2.2.1 hcl.2.1 A.2.2.2.2.2.1 A.2.2.2.2.2.2.2.2.1.1 (gx_one hR ha) 0 rfl hcl.1 kk hk (A.2.2.2.2.2.2.2.1 _ hw) (fun _ hx => hx) hv hd (k p l e R s m args below meth c H locs cells slots ls A hR hL hl hc hs)
theorem gx_locs {locs : List Loc} {N : Nat} {a k : Nat} (hL : ∀ q ∈ locs, N ≤ q.base) (ha : N ≤ a) : ∀ q ∈ locs ++ [⟨a, k⟩], N ≤ q.base := fun q hq => by
  rcases List.mem_append.mp hq with hq | hq
  · exact hL q hq
  · rw [List.mem_singleton.mp hq]; exact ha
theorem J_put {ci : Nat} {C : String} {T : u_T} {N : Nat} {ty : Nat → FieldType} (hcl : gx_clOk ci C T N ty) {index kk : Nat} {a : Nat} {fs : List Value} {v : Value} (hd : decode M.2.1 pc = .ok (.putfield index, 3)) (hw : Cond.fieldLink M.1 index (T kk).1 (T kk).2.1 (T kk).2.2.1 ∈ gx_ws) (hk : kk < N) (ha : h.2 a = some (.inr (ci, fs))) (hfin : (T kk).2.2.2 = false ∨ ((T kk).2.2.2 = true ∧ M.2.2.2.2 = true ∧ (T kk).1 = M.1)) (hnar : narrow (ty kk) v = v) (hfit : fits (ty kk) v = true) (hlen : kk < fs.length) (hn : pc + 3 = n) (k : gx_J G M d kc ks Q n lv rest (gx_up h a (.inr (ci, fs.set kk v)))) : gx_J G M d kc ks Q pc lv (v :: .ref a :: rest) h := by
  subst hn
  intro p l e R s m args below meth c H locs cells slots ls A hR hL hl hcc hs
  have hts := A.2.2.2.2.2.2.2.1
  have hown := A.2.2.2.2.2.1
  have hK := A.2.2.2.2.2.2.2.2.1.1
  obtain ⟨hc, hin, hty, hnm⟩ := hcl
  have hap := va_apart (own := C) (T := T) (N := N) (ci := ci) hts hin ty hty hnm hK hc
  obtain ⟨haN, r, h1, cell, q1, q2, q3, q4⟩ := hR.2.2.2 a _ ha
  have hr : r = (C, T, N) := Option.some.inj (h1.symm.trans hc)
  subst hr
  obtain ⟨hS, hfc, kC, hkC, hkind⟩ := hK.1 ci _ hc
  obtain ⟨cf, kf, fi, f, hi, hsl⟩ := hS kk hk
  have hst := (u_facts hfc hkC (u_lays hts hin hk) hi).1
  have fin : ∀ H' : Heap, H'[a]? = some (cell.setSlot f.slot v) → H'.size = H.size → (∀ q, q ≠ a → H'[q]? = H[q]?) → W p l e R s m args below meth c H' (locs ++ [⟨a, f.slot⟩]) cells slots (MQ below (gx_Qc G Q) args s R.cells R.slots (fun a => gx_N G ≤ a)) (F0 m (pc + 3) ls rest) := by
    intro H' e1 e2 e3
    rw [hsl] at e1
    exact k p l e R s m args below meth c H' (locs ++ [⟨a, f.slot⟩]) cells slots ls A (hR.put haN e2 e3 ⟨_, hc, t_OB.to (V := updV (vp_V fs) kk v) ⟨_, e1, q2, q3, t_set q4 hap hk v⟩ (fun j _ => vp_updV_set hlen v j)⟩) (gx_locs hL haN) hl hcc hs
  have hlay := hts _ (hin _ (u_in_lay hk))
  unfold u_lay at hlay
  rcases hfin with hfin | ⟨hfin, hini, hdecl⟩
  · rw [if_neg (by rw [hfin]; decide)] at hlay
    have h6 := u_store hfc hkC hkind hlay hi (hty kk hk) hnar hfit
    exact W.putK A.1 A.2.1 (f := f) ⟨hown, hts _ hw, ⟨_, _, _, hi⟩, hst⟩ (by rw [q2]; exact h6) q1 q3 (by rw [hsl]; exact k2_hasslot (q4 kk hk)) rfl rfl hd fin
  · rw [if_pos hfin] at hlay
    have hcf : m.cls = cf := by
      obtain ⟨_, _, c', _, _, _, -, -, hf', -, -, -, hown2, -⟩ := Cond.laysFinal_spec hlay
      have e1 : c' = cf := by have := hi.symm.trans hf'; simp at this; exact this.1.symm
      rw [hdecl] at hown2
      rw [← e1]; exact Option.some.inj (hown.symm.trans hown2)
    have h6 := u_fits hfc hkC hkind (Or.inr hlay) hi (hty kk hk) hnar hfit
    exact W.putFinK A.1 A.2.1 hown (hts _ hw) hi hst hcf (A.2.2.2.2.2.2.1 hini) (by rw [q2]; exact h6) q1 q3 (by rw [hsl]; exact k2_hasslot (q4 kk hk)) rfl rfl hd fin
theorem J_iald {a N : Nat} {f : Nat → Int32} {i : Int32} (hd : decode M.2.1 pc = .ok (.iaload, 1)) (ha : h.2 a = some (.inl (G.2.1 0, N, .inl f))) (hin : vp_in i N) (hn : pc + 1 = n) (k : gx_J G M d kc ks Q n lv (.int (f i.toNatClampNeg) :: rest) h) : gx_J G M d kc ks Q pc lv (.int i :: .ref a :: rest) h := by
  subst hn
  intro p l e R s m args below meth c H locs cells slots ls A hR hL hl hc hs
  exact va_iald A.1 A.2.1 A.2.2.2.2.2.2.2.2.1.1 (gx_one hR ha) 0 0 rfl rfl hin hd (k p l e R s m args below meth c H locs cells slots ls A hR hL hl hc hs)
theorem J_bald {a N : Nat} {f : Nat → Int32} {i : Int32} (hd : decode M.2.1 pc = .ok (.baload, 1)) (ha : h.2 a = some (.inl (G.2.1 1, N, .inl f))) (hin : vp_in i N) (hn : pc + 1 = n) (k : gx_J G M d kc ks Q n lv (.int (f i.toNatClampNeg) :: rest) h) : gx_J G M d kc ks Q pc lv (.int i :: .ref a :: rest) h := by
  subst hn
  intro p l e R s m args below meth c H locs cells slots ls A hR hL hl hc hs
  exact va_bald A.1 A.2.1 A.2.2.2.2.2.2.2.2.1.1 (gx_one hR ha) 0 1 rfl rfl hin hd (k p l e R s m args below meth c H locs cells slots ls A hR hL hl hc hs)
theorem J_zald {a N : Nat} {f : Nat → Int32} {i : Int32} (hd : decode M.2.1 pc = .ok (.baload, 1)) (ha : h.2 a = some (.inl (G.2.1 2, N, .inl f))) (hin : vp_in i N) (hn : pc + 1 = n) (k : gx_J G M d kc ks Q n lv (.int (f i.toNatClampNeg) :: rest) h) : gx_J G M d kc ks Q pc lv (.int i :: .ref a :: rest) h := by
  subst hn
  intro p l e R s m args below meth c H locs cells slots ls A hR hL hl hc hs
  exact va_zald A.1 A.2.1 A.2.2.2.2.2.2.2.2.1.1 (gx_one hR ha) 0 2 rfl rfl hin hd (k p l e R s m args below meth c H locs cells slots ls A hR hL hl hc hs)
theorem J_alen {a t : Nat} {x : vp_A} {v : Int32} {ty : FieldType} (hd : decode M.2.1 pc = .ok (.arraylength, 1)) {cA : ClassId} (ha : h.2 a = some (.inl (cA, x))) (ht : (gx_tys G)[t]? = some (cA, ty)) (hv : Int32.ofNat x.1 = v) (hn : pc + 1 = n) (k : gx_J G M d kc ks Q n lv (.int v :: rest) h) : gx_J G M d kc ks Q pc lv (.ref a :: rest) h := by
  subst hn
  intro p l e R s m args below meth c H locs cells slots ls A hR hL hl hc hs
  exact va_alen A.1 A.2.1 A.2.2.2.2.2.2.2.2.1.1 (gx_one hR ha) 0 t rfl ht hv hd (k p l e R s m args below meth c H locs cells slots ls A hR hL hl hc hs)
theorem J_aald {a N t : Nat} {C : String} {f : Nat → Option Nat} {i : Int32} {b : Nat} (hd : decode M.2.1 pc = .ok (.aaload, 1)) {cA : ClassId} (ha : h.2 a = some (.inl (cA, N, .inr (.inr (.inr (.inr f)))))) (ht : (gx_tys G)[t]? = some (cA, .object C)) (hin : vp_in i N) (hb : f i.toNatClampNeg = some b) (hn : pc + 1 = n) (k : gx_J G M d kc ks Q n lv (.ref b :: rest) h) : gx_J G M d kc ks Q pc lv (.int i :: .ref a :: rest) h := by
  subst hn
  intro p l e R s m args below meth c H locs cells slots ls A hR hL hl hc hs
  refine va_aldq A.1 A.2.1 A.2.2.2.2.2.2.2.2.1.1 (gx_one hR ha) 0 t rfl ht hin hd ?_
  rw [hb]
  exact k p l e R s m args below meth c H locs cells slots ls A hR hL hl hc hs
theorem gx_cell_i (cA : ClassId) (N : Nat) (f : Nat → Int32) (j : Nat) (x : Int32) : (vp_cell cA (N, .inl f)).setSlot j (.int x) = vp_cell cA (N, .inl (upd f j x)) := by
  rw [vp_cell_i, vp_cell_i, arrV_store]
  congr 2
  funext q
  by_cases hq : q = j
  · subst hq; simp [updV, upd]
  · simp [updV, upd, hq]
theorem gx_arr_in {cA : ClassId} {N : Nat} {f : Nat → Int32} {i : Int32} (hin : vp_in i N) : ¬ (i < 0 ∨ (vp_cell cA (N, .inl f)).slots.size ≤ i.toNatClampNeg) := by
  show ¬ (i < 0 ∨ (arrV _ _ _).slots.size ≤ _)
  rw [arrV_size]
  exact hin
theorem J_iast {a N : Nat} {f : Nat → Int32} {i x : Int32} (hd : decode M.2.1 pc = .ok (.iastore, 1)) (ha : h.2 a = some (.inl (G.2.1 0, N, .inl f))) (hin : vp_in i N) (hn : pc + 1 = n) (k : gx_J G M d kc ks Q n lv rest (gx_up h a (.inl (G.2.1 0, N, .inl (upd f i.toNatClampNeg x))))) : gx_J G M d kc ks Q pc lv (.int x :: .int i :: .ref a :: rest) h := by
  subst hn
  intro p l e R s m args below meth c H locs cells slots ls A hR hL hl hc hs
  have hK := A.2.2.2.2.2.2.2.2.1.1
  obtain ⟨haN, hcell⟩ := hR.2.2.2 a _ ha
  refine W.iast A.1 A.2.1 hcell ((hK.2 0 _ rfl).1 N (fun j => .int (f j))) (fun q => by cases q) (gx_arr_in hin) rfl rfl hd fun H1 e1 z oq => ?_
  exact k p l e R s m args below meth c H1 _ cells slots ls A (hR.put haN z oq (by show H1[a]? = some _; rw [e1, gx_cell_i])) (gx_locs hL haN) hl hc hs
theorem J_bast {a N : Nat} {f : Nat → Int32} {i x : Int32} (hd : decode M.2.1 pc = .ok (.bastore, 1)) (ha : h.2 a = some (.inl (G.2.1 1, N, .inl f))) (hin : vp_in i N) (hn : pc + 1 = n) (k : gx_J G M d kc ks Q n lv rest (gx_up h a (.inl (G.2.1 1, N, .inl (upd f i.toNatClampNeg x.toInt8.toInt32))))) : gx_J G M d kc ks Q pc lv (.int x :: .int i :: .ref a :: rest) h := by
  subst hn
  intro p l e R s m args below meth c H locs cells slots ls A hR hL hl hc hs
  have hK := A.2.2.2.2.2.2.2.2.1.1
  obtain ⟨haN, hcell⟩ := hR.2.2.2 a _ ha
  refine W.bast A.1 A.2.1 hcell ((hK.2 1 _ rfl).1 N (fun j => .int (f j))) (fun q => by cases q) (gx_arr_in hin) rfl rfl hd fun H1 e1 z oq => ?_
  exact k p l e R s m args below meth c H1 _ cells slots ls A (hR.put haN z oq (by show H1[a]? = some _; rw [e1]; exact congrArg some (gx_cell_i _ _ _ _ _))) (gx_locs hL haN) hl hc hs
theorem J_zast {a N : Nat} {f : Nat → Int32} {i x : Int32} (hd : decode M.2.1 pc = .ok (.bastore, 1)) (ha : h.2 a = some (.inl (G.2.1 2, N, .inl f))) (hin : vp_in i N) (hx : narrow .boolean (.int x) = .int x) (hn : pc + 1 = n) (k : gx_J G M d kc ks Q n lv rest (gx_up h a (.inl (G.2.1 2, N, .inl (upd f i.toNatClampNeg x))))) : gx_J G M d kc ks Q pc lv (.int x :: .int i :: .ref a :: rest) h := by
  subst hn
  intro p l e R s m args below meth c H locs cells slots ls A hR hL hl hc hs
  have hK := A.2.2.2.2.2.2.2.2.1.1
  obtain ⟨haN, hcell⟩ := hR.2.2.2 a _ ha
  refine W.zast A.1 A.2.1 hcell ((hK.2 2 _ rfl).1 N (fun j => .int (f j))) (fun q => by cases q) (gx_arr_in hin) rfl rfl hd fun H1 e1 z oq => ?_
  exact k p l e R s m args below meth c H1 _ cells slots ls A (hR.put haN z oq (by show H1[a]? = some _; rw [e1, hx]; exact congrArg some (gx_cell_i _ _ _ _ _))) (gx_locs hL haN) hl hc hs
/-! made cells -/
theorem J_new {ci : Nat} {C : String} {T : u_T} {N : Nat} {ty : Nat → FieldType} (hcl : gx_clOk ci C T N ty) {index : Nat} {fs : List Value} (hd : decode M.2.1 pc = .ok (.new index, 3)) (hw : Cond.classLink M.1 index C ∈ gx_ws) (hw1 : Cond.instantiable C N ∈ gx_ws) (hw2 : Cond.initialized C ∈ gx_ws) (hfs : ∀ j, j < N → defaultValue (ty j) = vp_V fs j) (hn : pc + 3 = n) (k : gx_J G M d kc ks Q n lv (.ref h.1 :: rest) (gx_push h (.inr (ci, fs)))) : gx_J G M d (kc + 1) (ks + N) Q pc lv rest h := by
  subst hn
  intro p l e R s m args below meth c H locs cells slots ls A hR hL hl hcc hs
  have hts := A.2.2.2.2.2.2.2.1
  have hKn := A.2.2.2.2.2.2.2.2.1.1.1 ci _ hcl.1
  refine W.newcK A.1 A.2.1 A.2.2.2.2.2.1 (hts _ hw) (hts _ hw1) (hts _ hw2) rfl hd (by omega) (by omega) hKn.2.1 hR.1 fun H1 kC hkC e1 z1 o1 => ?_
  refine k p l e R s m args below meth c H1 locs (cells + 1) (slots + N) ls A (hR.push (by rw [hR.1]; exact z1) (fun q hq => o1 q (by rw [← hR.1]; exact hq)) ?_) hL hl (by omega) (by omega)
  rw [hR.1]
  exact ⟨_, hcl.1, (u_born ty hts hcl.2.1 hKn hkC e1 hcl.2.2.1).to hfs⟩
theorem gx_arrId {G : gx_G} {s : State} {t : Nat} {cA cB : ClassId} {ty : FieldType} (hK : va_K G.1 gx_cl (gx_tys G) s) (ht : (gx_tys G)[t]? = some (cA, ty)) (hp : ∀ C, ty ≠ .object C) (hf : s.vm.findClass ("[" ++ ty.toString) = some cB) : cB = cA := by
  have h2 := (hK.2 t _ ht).2
  cases ty with
  | object C => exact absurd rfl (hp C)
  | _ => exact Option.some.inj (hf.symm.trans h2)
theorem J_newa {at_ : ArrayType} {t : Nat} {cA : ClassId} {z : Int32} {N : Nat} {a0 : vp_A} (hd : decode M.2.1 pc = .ok (.newarray at_, 2)) (hw : Cond.arrayClass (newarray.typeOf at_) ∈ gx_ws) (ht : (gx_tys G)[t]? = some (cA, newarray.typeOf at_)) (hp : ∀ C, newarray.typeOf at_ ≠ .object C) (ha : vp_cell cA a0 = arrV cA N (fun _ => defaultValue (newarray.typeOf at_))) (hz : ¬ z < 0) (hN : z.toNatClampNeg = N) (hbytes : N * componentBytes (newarray.typeOf at_) ≤ 536870912) (hn : pc + 2 = n) (k : gx_J G M d kc ks Q n lv (.ref h.1 :: rest) (gx_push h (.inl (cA, a0)))) : gx_J G M d (kc + 1) (ks + N) Q pc lv (.int z :: rest) h := by
  subst hn
  intro p l e R s m args below meth c H locs cells slots ls A hR hL hl hcc hs
  have hts := A.2.2.2.2.2.2.2.1
  refine va_newaK A.1 A.2.1 (hts _ hw) rfl hd rfl hz hN hbytes (by omega) (by omega) hR.1 fun H1 cB e1 z1 o1 hAr hNm => ?_
  have hcB : cB = cA := gx_arrId A.2.2.2.2.2.2.2.2.1.1 ht hp hNm
  subst hcB
  refine k p l e R s m args below meth c H1 locs (cells + 1) (slots + N) ls A (hR.push (by rw [hR.1]; exact z1) (fun q hq => o1 q (by rw [← hR.1]; exact hq)) ?_) hL hl (by omega) (by omega)
  rw [hR.1]
  show H1[h.1]? = some (vp_cell _ _)
  rw [ha]
  exact e1
theorem J_anew {index : Nat} {C : String} {t : Nat} {cA : ClassId} {z : Int32} {N : Nat} (hd : decode M.2.1 pc = .ok (.anewarray index, 3)) (hw : Cond.classLink M.1 index C ∈ gx_ws) (hw1 : C ∈ gx_over) (ht : (gx_tys G)[t]? = some (cA, .object C)) (hz : ¬ z < 0) (hN : z.toNatClampNeg = N) (hbytes : N * 4 ≤ 536870912) (hn : pc + 3 = n) (k : gx_J G M d kc ks Q n lv (.ref h.1 :: rest) (gx_push h (.inl (cA, N, .inr (.inr (.inr (.inr (fun _ => none)))))))) : gx_J G M d (kc + 1) (ks + N) Q pc lv (.int z :: rest) h := by
  subst hn
  subst hN
  intro p l e R s m args below meth c H locs cells slots ls A hR hL hl hcc hs
  have hts := A.2.2.2.2.2.2.2.1
  refine W.anew A.1 A.2.1 A.2.2.2.2.2.1 (hts _ hw) (va_AO.use (A.2.2.2.2.2.2.2.2.1.2.2.2.2.2 C hw1)) rfl hd rfl hz hbytes (by omega) (by omega) fun cB kA comp f1 f2 f3 f4 => ?_
  have hcB : cB = cA := by
    obtain ⟨_, _, -, -, -, h2⟩ := (A.2.2.2.2.2.2.2.2.1.1.2 t _ ht).2
    exact Option.some.inj (f1.symm.trans h2)
  subst hcB
  have e2 := k p l e R s m args below meth c (H.push ({ cls := cB, slots := Array.replicate z.toNatClampNeg .null, vm := .none } : Cell)) locs (cells + 1) (slots + z.toNatClampNeg) ls A (hR.push (by simp) (fun q hq => by rw [Array.getElem?_push, if_neg (Nat.ne_of_lt hq)]) (by show (H.push _)[H.size]? = some (vp_cell _ _); rw [vp_cell_q, Array.getElem?_push_size, ← arrV_new]; rfl)) hL hl (by omega) (by omega)
  rw [← hR.1] at e2
  exact e2
theorem J_objInit {index : Nat} {a : Nat} (hd : decode M.2.1 pc = .ok (.invokespecial index, 3)) (hw : Cond.methodLink M.1 index Lib.objectInit ∈ gx_ws) (hw1 : Cond.instanceMethod Lib.objectInit ∈ gx_ws) (hw2 : Cond.code Lib.objectInit ⟨#[0xb1]⟩ 1 none ∈ gx_ws) (hst : (rest.map fun v => v.category).sum ≤ 8) (hn : pc + 3 = n) (k : gx_J G M (d + 1) kc ks Q n lv rest h) : gx_J G M (d + 1) kc ks Q pc lv (.ref a :: rest) h := by
  subst hn
  intro p l e R s m args below meth c H locs cells slots ls A hR hL hl hcc hs
  have hts := A.2.2.2.2.2.2.2.1
  have hfr := A.2.2.2.2.2.2.2.2.2.1
  have hlo := A.2.2.2.2.2.2.2.2.2.2
  exact W.objInit A.1 A.2.1 A.2.2.2.2.2.1 (hts _ hw) (hts _ hw1) (hts _ hw2) rfl (hl.1.trans A.2.2.1.symm) rfl hd (by omega) (by show 2 * 0 + _ + 12 ≤ _; omega) (k p l e R s m args below meth c H locs cells slots ls A hR hL hl hcc hs)
theorem J_aast {a N t ci b : Nat} {r : vw_C} {f : Nat → Option Nat} {vs : List Value} {i : Int32} (hd : decode M.2.1 pc = .ok (.aastore, 1)) {cA : ClassId} (ha : h.2 a = some (.inl (cA, N, .inr (.inr (.inr (.inr f)))))) (ht : (gx_tys G)[t]? = some (cA, .object r.1)) (hb : h.2 b = some (.inr (ci, vs))) (hc : gx_cl[ci]? = some r) (hin : vp_in i N) (hn : pc + 1 = n) (k : gx_J G M d kc ks Q n lv rest (gx_up h a (.inl (cA, N, .inr (.inr (.inr (.inr (va_up f i.toNatClampNeg (some b))))))))) : gx_J G M d kc ks Q pc lv (.ref b :: .int i :: .ref a :: rest) h := by
  subst hn
  intro p l e R s m args below meth c H locs cells slots ls A hR hL hl hcc hs
  have hK := A.2.2.2.2.2.2.2.2.1.1
  have hlt : i.toNatClampNeg < N := Nat.not_le.mp fun q => hin (Or.inr q)
  have h0 : ¬ i < 0 := fun q => hin (Or.inl q)
  obtain ⟨haN, hcell⟩ := hR.2.2.2 a _ ha
  obtain ⟨-, r', hr', cellV, g1, g2, g3, -⟩ := hR.2.2.2 b _ hb
  have hcls := (hK.1 ci r hc).2
  obtain ⟨kA, comp, k1, k2, k3, -⟩ := (hK.2 t _ ht).2
  have hcomp : comp = G.1.1 ci := Option.some.inj (k3.symm.trans hcls.1)
  subst hcomp
  obtain ⟨kC, hkC, -⟩ := hcls.2
  refine W.aast A.1 A.2.1 hcell (fun q h => by cases h) (fun h => by cases h) k1 k2 rfl hkC ⟨h0, by show _ < (arrV _ _ _).slots.size; rw [arrV_size]; exact hlt⟩ g1 (fun q h => by rw [g3] at h; cases h) (by rw [g2]; exact hkC) (by rw [g2]; exact va_assign hcls) rfl rfl hd fun H1 e1 z oq => ?_
  refine k p l e R s m args below meth c H1 _ cells slots ls A (hR.put haN z oq ?_) (gx_locs hL haN) hl hcc hs
  show H1[a]? = some (vp_cell _ _)
  rw [e1]
  rw [vp_cell_q, vp_cell_q, arrV_store]
  congr 2
  funext q
  by_cases hq : q = i.toNatClampNeg
  · subst hq
    simp [updV, va_up, va_rf]
  · simp [updV, va_up, hq]
/-! the JDK's small ones -/
theorem J_mmax {index : Nat} {x y : Int32} (hd : decode M.2.1 pc = .ok (.invokestatic index, 3)) (hw : Cond.methodLink M.1 index Lib.Math.max.name ∈ gx_ws) (hw1 : Cond.static Lib.Math.max.name ∈ gx_ws ∧ Cond.initialized "java/lang/Math" ∈ gx_ws ∧ Cond.code Lib.Math.max.name Lib.Math.max.code 2 (some .int) ∈ gx_ws) (hst : (rest.map fun v => v.category).sum ≤ 8) (hn : pc + 3 = n) (k : gx_J G M (d + 1) kc ks Q n lv (.int (if x < y then y else x) :: rest) h) : gx_J G M (d + 1) kc ks Q pc lv (.int y :: .int x :: rest) h := by
  subst hn
  intro p l e R s m args below meth c H locs cells slots ls A hR hL hl hcc hs
  have hts := A.2.2.2.2.2.2.2.1
  have hfr := A.2.2.2.2.2.2.2.2.2.1
  have hlo := A.2.2.2.2.2.2.2.2.2.2
  exact va_mmax A.1 A.2.1 (A.2.2.1.trans hl.1.symm) A.2.2.2.2.2.1 (hts _ hw) (hts _ hw1.1) (hts _ hw1.2.1) (hts _ hw1.2.2) (by omega) (by omega) (by omega) (by omega) hd (k p l e R s m args below meth c H locs cells slots ls A hR hL hl hcc hs)
theorem J_mmin {index : Nat} {x y : Int32} (hd : decode M.2.1 pc = .ok (.invokestatic index, 3)) (hw : Cond.methodLink M.1 index Lib.Math.min.name ∈ gx_ws) (hw1 : Cond.static Lib.Math.min.name ∈ gx_ws ∧ Cond.initialized "java/lang/Math" ∈ gx_ws ∧ Cond.code Lib.Math.min.name Lib.Math.min.code 2 (some .int) ∈ gx_ws) (hst : (rest.map fun v => v.category).sum ≤ 8) (hn : pc + 3 = n) (k : gx_J G M (d + 1) kc ks Q n lv (.int (if y < x then y else x) :: rest) h) : gx_J G M (d + 1) kc ks Q pc lv (.int y :: .int x :: rest) h := by
  subst hn
  intro p l e R s m args below meth c H locs cells slots ls A hR hL hl hcc hs
  have hts := A.2.2.2.2.2.2.2.1
  have hfr := A.2.2.2.2.2.2.2.2.2.1
  have hlo := A.2.2.2.2.2.2.2.2.2.2
  exact va_mmin A.1 A.2.1 (A.2.2.1.trans hl.1.symm) A.2.2.2.2.2.1 (hts _ hw) (hts _ hw1.1) (hts _ hw1.2.1) (hts _ hw1.2.2) (by omega) (by omega) (by omega) (by omega) hd (k p l e R s m args below meth c H locs cells slots ls A hR hL hl hcc hs)
theorem J_mabs {index : Nat} {x : Int32} (hd : decode M.2.1 pc = .ok (.invokestatic index, 3)) (hw : Cond.methodLink M.1 index Lib.Math.abs.name ∈ gx_ws) (hw1 : Cond.static Lib.Math.abs.name ∈ gx_ws ∧ Cond.initialized "java/lang/Math" ∈ gx_ws ∧ Cond.code Lib.Math.abs.name Lib.Math.abs.code 1 (some .int) ∈ gx_ws) (hst : (rest.map fun v => v.category).sum ≤ 8) (hn : pc + 3 = n) (k : gx_J G M (d + 1) kc ks Q n lv (.int (if 0 ≤ x then x else 0 - x) :: rest) h) : gx_J G M (d + 1) kc ks Q pc lv (.int x :: rest) h := by
  subst hn
  intro p l e R s m args below meth c H locs cells slots ls A hR hL hl hcc hs
  have hts := A.2.2.2.2.2.2.2.1
  have hfr := A.2.2.2.2.2.2.2.2.2.1
  have hlo := A.2.2.2.2.2.2.2.2.2.2
  exact va_mabs A.1 A.2.1 (A.2.2.1.trans hl.1.symm) A.2.2.2.2.2.1 (hts _ hw) (hts _ hw1.1) (hts _ hw1.2.1) (hts _ hw1.2.2) (by omega) (by omega) (by omega) (by omega) hd (k p l e R s m args below meth c H locs cells slots ls A hR hL hl hcc hs)
/-! calls -/
theorem gx_K.of {y : MethodName} {mc ms : Nat} {av : List Value} (hy : plainName y.cls = true) (hcls : y.cls = M.1) (hnm : M.2.2.2.2 = true → y.name = "<init>") (hlen : (lg_sl av).length ≤ M.2.2.1) (k : gx_J G M d mc ms Q 0 (lv_args 0 av) [] h) : gx_K G y M d mc ms av h Q := by
  intro l rm e1 e2 e3 e4
  refine Met.ofW (cc := M.2.1) (maxL := M.2.2.1) (ret := M.2.2.2.1) (ws' := gx_ws) hy rfl ?_
  intro p e s m args below meth c s₁ B hml hv
  obtain ⟨rfl, hI, hR⟩ := hv
  have hts : ∀ w ∈ (Cond.code y M.2.1 M.2.2.1 M.2.2.2.1 :: gx_ws), w.before av.toArray s = true := atoms_spec B.pre
  have hown : s.vm.findClass y.cls = some m.cls := findClass_of_methodNamed B.named
  have hl := lv_entry av (n := M.2.2.1) hlen
  rw [lg_entry_eq]
  have := k p l e rm s m av.toArray below meth c s.heap [] 0 0 _ ⟨B.exec, B.bytes, hml, B.returns, B.notSynchronized, by rw [← hcls]; exact hown, fun q => (name_of_methodNamed B.named B.method).1.trans (hnm q), fun w hw => hts w (List.mem_cons_of_mem _ hw), hI, by omega, by omega⟩ hR (fun q hq => by cases hq) hl (by omega) (by omega)
  rw [e3, e4] at this
  exact this
theorem gx_callX {R : Room} {s : State} {m : MethodId} {args : Array Value} {p : Program} {l : Launch} {e : Env} {below : List Frame} {meth : Method} {c : Code} {H : Heap} {locs : List Loc} {cells slots mc ms : Nat} {ls : Array Slot} {st0 : List Value} {Q1 : Option Value → gx_Hp → Prop} {a : Array Value}
    (A : gx_At G M d p R s m args meth c) (hL : ∀ q ∈ locs, gx_N G ≤ q.base) (hl : lv_has ls M.2.2.1 lv) (hc : cells + (mc + kc) ≤ R.cells) (hs : slots + (ms + ks) ≤ R.slots)
    (hr : va_Run p l e R s m args below meth c H locs cells slots mc ms (F0 m pc ls st0) rest (gx_Qc G Q1 a) (fun a => gx_N G ≤ a))
    (k : ∀ r h1, Q1 r h1 → gx_J G M d kc ks Q (pc + 3) lv (r.toList ++ rest) h1) : W p l e R s m args below meth c H locs cells slots (MQ below (gx_Qc G Q) args s R.cells R.slots (fun a => gx_N G ≤ a)) (F0 m pc ls st0) := by
  intro T hT X
  obtain ⟨v, st₀, t, T', L, h0, X', hLL, e1, e2, ⟨r, h1, hv, hq, hR1⟩, st⟩ := hr T hT X
  cases hv
  obtain ⟨t2, a1, b1⟩ := k v h1 hq p l e R s m args below meth c T'.heap (locs ++ L) (cells + mc) (slots + ms) ls A (by rw [e1]; exact hR1) (fun q hq => by
      rcases List.mem_append.mp hq with hq | hq
      · exact hL q hq
      · exact hLL q hq) hl (by omega) (by omega) T' rfl X'
  exact ⟨t2, st t2 a1, b1⟩
/-- what is said of a method once: its code is among the words, its class initialised, its parameters' number -/
def gx_St (y : MethodName) (M1 : gx_M) (np : Nat) : Prop := Cond.code y M1.2.1 M1.2.2.1 M1.2.2.2.1 ∈ gx_ws ∧ Cond.initialized y.cls ∈ gx_ws ∧ (y.cls ≠ "java/lang/invoke/MethodHandle" ∧ y.cls ≠ "java/lang/invoke/VarHandle" ∧ (parseMethodDescriptor y.desc).map (fun d => d.parameters.length) = some np) ∧ M1.2.2.1 ≤ 60
theorem J_callV {y : MethodName} {M1 : gx_M} {np mc ms index : Nat} {As st0 : List Value} {b ci : Nat} {C : String} {T : u_T} {N : Nat} {fs : List Value} {Q1 : Option Value → gx_Hp → Prop} (hS : gx_St y M1 np) (hK : gx_K G y M1 d mc ms (.ref b :: As) h Q1) (hd : decode M.2.1 pc = .ok (.invokevirtual index, 3)) (hw : Cond.methodLink M.1 index y ∈ gx_ws) (hw1 : Cond.instanceMethod y ∈ gx_ws ∧ Cond.selects C y y ∈ gx_ws) (hc : gx_cl[ci]? = some (C, T, N)) (hb : h.2 b = some (.inr (ci, fs))) (hA : As.length = np) (hstk : st0 = As.reverse ++ .ref b :: rest) (hst : (rest.map fun v => v.category).sum ≤ 8) (hn : pc + 3 = n)
    (k : ∀ r h1, Q1 r h1 → gx_J G M (d + 1) kc ks Q n lv (r.toList ++ rest) h1) : gx_J G M (d + 1) (mc + kc) (ms + ks) Q pc lv st0 h := by
  subst hn
  subst hstk
  intro p l e R s m args below meth c H locs cells slots ls A hR hL hl hcc hs
  obtain ⟨hx, hcb, hml, -, -, hown, -, hts, hI, hfr, hlo⟩ := id A
  obtain ⟨s1, s2, s3, s4⟩ := hS
  refine gx_callX (a := (Value.ref b :: As).toArray) A hL hl hcc hs (va_runV (C := C) (nL := M.2.2.1) (rm := { frames := d, cells := mc, slots := ms, locals := 100 * d }) ⟨hx, hcb, hml, hown, hts⟩ (hK l _ rfl rfl rfl rfl) ⟨callB_of np hts (gx_goodIn s1) rfl rfl rfl (hts _ s2) (hts _ hw) s3 ⟨by show d + 1 ≤ _; omega, by show 8 + (_ + 11) + 100 * d ≤ _; omega⟩, hts _ hw1.1, hts _ hw1.2⟩ ⟨gx_blind _ _ _, va_recv hI.1 (gx_one hR hb) hc (q0 := 0) rfl, fun U hU hW => ⟨rfl, hI.moved hW, by rw [hU]; exact hR⟩⟩ rfl hA hl.1 rfl (lv_room hst) hd ⟨by omega, by omega⟩) k
theorem J_callS {y : MethodName} {M1 : gx_M} {np mc ms index : Nat} {As st0 : List Value} {Q1 : Option Value → gx_Hp → Prop} (hS : gx_St y M1 np) (hK : gx_K G y M1 d mc ms As h Q1) (hd : decode M.2.1 pc = .ok (.invokestatic index, 3)) (hw : Cond.methodLink M.1 index y ∈ gx_ws) (hw1 : Cond.static y ∈ gx_ws) (hA : As.length = np) (hstk : st0 = As.reverse ++ rest) (hst : (rest.map fun v => v.category).sum ≤ 8) (hn : pc + 3 = n)
    (k : ∀ r h1, Q1 r h1 → gx_J G M (d + 1) kc ks Q n lv (r.toList ++ rest) h1) : gx_J G M (d + 1) (mc + kc) (ms + ks) Q pc lv st0 h := by
  subst hn
  subst hstk
  intro p l e R s m args below meth c H locs cells slots ls A hR hL hl hcc hs
  obtain ⟨hx, hcb, hml, -, -, hown, -, hts, hI, hfr, hlo⟩ := id A
  obtain ⟨s1, s2, s3, s4⟩ := hS
  refine gx_callX (a := As.toArray) A hL hl hcc hs (va_runS (nL := M.2.2.1) (rm := { frames := d, cells := mc, slots := ms, locals := 100 * d }) ⟨hx, hcb, hml, hown, hts⟩ (hK l _ rfl rfl rfl rfl) ⟨callB_of np hts (gx_goodIn s1) rfl rfl rfl (hts _ s2) (hts _ hw) s3 ⟨by show d + 1 ≤ _; omega, by show 8 + (_ + 11) + 100 * d ≤ _; omega⟩, hts _ hw1⟩ ⟨gx_blind _ _ _, fun U hU hW => ⟨rfl, hI.moved hW, by rw [hU]; exact hR⟩⟩ rfl hA hl.1 rfl (lv_room hst) hd ⟨by omega, by omega⟩) k
theorem J_callI {y : MethodName} {M1 : gx_M} {np mc ms index : Nat} {As st0 : List Value} {b : Nat} {Q1 : Option Value → gx_Hp → Prop} (hS : gx_St y M1 np) (hK : gx_K G y M1 d mc ms (.ref b :: As) h Q1) (hret : M1.2.2.2.1 = none) (hd : decode M.2.1 pc = .ok (.invokespecial index, 3)) (hw : Cond.methodLink M.1 index y ∈ gx_ws) (hw1 : Cond.instanceMethod y ∈ gx_ws) (hnm : y.name = "<init>") (hA : As.length = np) (hstk : st0 = As.reverse ++ .ref b :: rest) (hst : (rest.map fun v => v.category).sum ≤ 8) (hn : pc + 3 = n)
    (k : ∀ r h1, Q1 r h1 → gx_J G M (d + 1) kc ks Q n lv (r.toList ++ rest) h1) : gx_J G M (d + 1) (mc + kc) (ms + ks) Q pc lv st0 h := by
  subst hn
  subst hstk
  intro p l e R s m args below meth c H locs cells slots ls A hR hL hl hcc hs
  obtain ⟨hx, hcb, hml, -, -, hown, -, hts, hI, hfr, hlo⟩ := id A
  obtain ⟨s1, s2, s3, s4⟩ := hS
  have hK1 := hK l { frames := d, cells := mc, slots := ms, locals := 100 * d } rfl rfl rfl rfl
  rw [hret] at s1 hK1
  refine gx_callX (a := (Value.ref b :: As).toArray) A hL hl hcc hs (va_runI (nL := M.2.2.1) (rm := { frames := d, cells := mc, slots := ms, locals := 100 * d }) ⟨hx, hcb, hml, hown, hts⟩ hK1 ⟨callB_of np hts (gx_goodIn s1) rfl rfl rfl (hts _ s2) (hts _ hw) s3 ⟨by show d + 1 ≤ _; omega, by show 8 + (_ + 11) + 100 * d ≤ _; omega⟩, hnm, hts _ hw1⟩ ⟨gx_blind _ _ _, fun U hU hW => ⟨rfl, hI.moved hW, by rw [hU]; exact hR⟩⟩ rfl hA hl.1 rfl (lv_room hst) hd ⟨by omega, by omega⟩) k
theorem J_callSN {y : MethodName} {M1 : gx_M} {np mc ms index : Nat} {As st0 : List Value} {Q1 : Option Value → gx_Hp → Prop} (hS : gx_St y M1 np) (hK : gx_K G y M1 d mc ms As h Q1) (hd : decode M.2.1 pc = .ok (.invokestatic index, 3)) (hw : (M.1, index, y) ∈ gx_nest) (hw1 : Cond.static y ∈ gx_ws) (hA : As.length = np) (hstk : st0 = As.reverse ++ rest) (hst : (rest.map fun v => v.category).sum ≤ 8) (hn : pc + 3 = n)
    (k : ∀ r h1, Q1 r h1 → gx_J G M (d + 1) kc ks Q n lv (r.toList ++ rest) h1) : gx_J G M (d + 1) (mc + kc) (ms + ks) Q pc lv st0 h := by
  subst hn
  subst hstk
  intro p l e R s m args below meth c H locs cells slots ls A hR hL hl hcc hs
  obtain ⟨hx, hcb, hml, -, -, hown, -, hts, hI, hfr, hlo⟩ := id A
  obtain ⟨s1, s2, s3, s4⟩ := hS
  have hlk : va_Nw (Cond.methodLinkNest M.1 index y RX6) s := hI.2.2.2.2.1 _ hw
  refine gx_callX (a := As.toArray) A hL hl hcc hs (va_runSN (nL := M.2.2.1) (host := RX6) (rm := { frames := d, cells := mc, slots := ms, locals := 100 * d }) ⟨hx, hcb, hml, hown, hts⟩ (hK l _ rfl rfl rfl rfl) ⟨va_cnB np hts (gx_goodIn s1) rfl rfl rfl hlk (hts _ s2) s3 ⟨by show d + 1 ≤ _; omega, by show 8 + (_ + 11) + 100 * d ≤ _; omega⟩, hts _ hw1, trivial⟩ ⟨gx_blind _ _ _, fun U hU hW => ⟨rfl, hI.moved hW, by rw [hU]; exact hR⟩⟩ rfl hA hl.1 rfl (lv_room hst) hd ⟨by omega, by omega⟩) k
theorem J_callIN {y : MethodName} {M1 : gx_M} {np mc ms index : Nat} {As st0 : List Value} {b : Nat} {Q1 : Option Value → gx_Hp → Prop} (hS : gx_St y M1 np) (hK : gx_K G y M1 d mc ms (.ref b :: As) h Q1) (hret : M1.2.2.2.1 = none) (hd : decode M.2.1 pc = .ok (.invokespecial index, 3)) (hw : (M.1, index, y) ∈ gx_nest) (hw1 : Cond.instanceMethod y ∈ gx_ws) (hnm : y.name = "<init>") (hA : As.length = np) (hstk : st0 = As.reverse ++ .ref b :: rest) (hst : (rest.map fun v => v.category).sum ≤ 8) (hn : pc + 3 = n)
    (k : ∀ r h1, Q1 r h1 → gx_J G M (d + 1) kc ks Q n lv (r.toList ++ rest) h1) : gx_J G M (d + 1) (mc + kc) (ms + ks) Q pc lv st0 h := by
  subst hn
  subst hstk
  intro p l e R s m args below meth c H locs cells slots ls A hR hL hl hcc hs
  obtain ⟨hx, hcb, hml, -, -, hown, -, hts, hI, hfr, hlo⟩ := id A
  obtain ⟨s1, s2, s3, s4⟩ := hS
  have hlk : va_Nw (Cond.methodLinkNest M.1 index y RX6) s := hI.2.2.2.2.1 _ hw
  have hK1 := hK l { frames := d, cells := mc, slots := ms, locals := 100 * d } rfl rfl rfl rfl
  rw [hret] at s1 hK1
  refine gx_callX (a := (Value.ref b :: As).toArray) A hL hl hcc hs (va_runIN (nL := M.2.2.1) (host := RX6) (rm := { frames := d, cells := mc, slots := ms, locals := 100 * d }) ⟨hx, hcb, hml, hown, hts⟩ hK1 ⟨va_cnB np hts (gx_goodIn s1) rfl rfl rfl hlk (hts _ s2) s3 ⟨by show d + 1 ≤ _; omega, by show 8 + (_ + 11) + 100 * d ≤ _; omega⟩, hnm, hts _ hw1⟩ ⟨gx_blind _ _ _, fun U hU hW => ⟨rfl, hI.moved hW, by rw [hU]; exact hR⟩⟩ rfl hA hl.1 rfl (lv_room hst) hd ⟨by omega, by omega⟩) k
/-! fewer locals, a weaker end -/
theorem J_sub {lv' : List (Nat × Value)} (hs : ∀ q ∈ lv', q ∈ lv) (k : gx_J G M d kc ks Q pc lv' rest h) : gx_J G M d kc ks Q pc lv rest h := by
  intro p l e R s m args below meth c H locs cells slots ls A hR hL hl hc hs2
  exact k p l e R s m args below meth c H locs cells slots ls A hR hL (gl_sub hl hs) hc hs2
end GXJ
