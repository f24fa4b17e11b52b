set_option maxHeartbeats 4000000 in
set_option maxRecDepth 100000 in
theorem whole_start {p : Program} {e : Env} {s : State} {m : MethodId} {below : List Frame} {meth : Method} {c : Code} (l : Launch) {b L : Nat} {xs : Nat → Int32} (hLE : L ≤ 320) (C0 : lw_At p s m meth c b L xs) : W p l e room_1 s m #[Value.ref b] below meth c s.heap [] 0 0 (lw_Z below #[Value.ref b] s) (entryFrame m ([Value.ref b] : List Value).toArray 4) := by
  obtain ⟨hx, hb, hr, hml, hown, hts, hX, hbl, hlocks, hgv⟩ := id C0
  have hs := flat_of_before _ hgv
  have hA : ∀ a : Nat, a < s.heap.size → ¬ (fun q : Nat => s.heap.size ≤ q) a := fun a h => Nat.not_le.mpr h
  have hg : ∀ w ∈ gx_ws, w.before #[Value.ref b] s = true := fun w hw => hts w (List.mem_filter.mp hw).1
  obtain ⟨c0, iS0, hK0⟩ := u_known (C := RX0) (T := TX0) (N := 3) (n := 3) hg wk_X0.2.1 (hg _ wN_X0)
  obtain ⟨c1, iS1, hK1⟩ := u_known (C := RX1) (T := TX1) (N := 3) (n := 3) hg wk_X1.2.1 (hg _ wN_X1)
  obtain ⟨c2, iS2, hK2⟩ := u_known (C := RX2) (T := TX2) (N := 4) (n := 4) hg wk_X2.2.1 (hg _ wN_X2)
  obtain ⟨c3, iS3, hK3⟩ := u_known (C := RX3) (T := TX3) (N := 2) (n := 2) hg wk_X3.2.1 (hg _ wN_X3)
  obtain ⟨c4, iS4, hK4⟩ := u_known (C := RX4) (T := TX4) (N := 10) (n := 10) hg wk_X4.2.1 (hg _ wN_X4)
  obtain ⟨c5, iS5, hK5⟩ := u_known (C := RX5) (T := TX5) (N := 11) (n := 11) hg wk_X5.2.1 (hg _ wN_X5)
  obtain ⟨c6, iS6, hK6⟩ := u_known (C := RX6) (T := TX6) (N := 9) (n := 9) hg wk_X6.2.1 (hg _ wN_X6)
  obtain ⟨c7, iS7, hK7⟩ := u_known (C := RX7) (T := TX7) (N := 30) (n := 30) hg wk_X7.2.1 (hg _ wN_X7)
  obtain ⟨a0, hA0⟩ := st_arr (hg _ wa_int) (fun C h => by cases h)
  obtain ⟨a1, hA1⟩ := st_arr (hg _ wa_byte) (fun C h => by cases h)
  obtain ⟨a2, hA2⟩ := st_arr (hg _ wa_boolean) (fun C h => by cases h)
  obtain ⟨a3, hA3⟩ := st_obj (hts _ (st_9 RX5 (by decide)))
  obtain ⟨a4, hA4⟩ := st_obj (hts _ (st_9 RX0 (by decide)))
  obtain ⟨a5, hA5⟩ := st_obj (hts _ (st_9 RX1 (by decide)))
  obtain ⟨adK, adV, hSt, hEv⟩ := vk_Sof (args := #[Value.ref b]) (s := s) (N := 7) (tm := st_tm) (len := st_len) (byt := gx_byt) (A := fun q : Nat => s.heap.size ≤ q) (by decide) (fun i hi => hs _ (st_1 i hi)) (fun i hi => hs _ (st_2 i hi)) (fun i hi => hs _ (st_3 i hi)) (fun i hi => hs _ (st_4 i hi)) (fun i hi j hj => hs _ (st_5 i hi j hj)) (fun i j hi hj hij => (st_6 i hi j hj hij).imp (hs _) (hs _)) hA
  obtain ⟨G, hG⟩ : ∃ G : gx_G, G = ((fun k => if k = 0 then c0 else if k = 1 then c1 else if k = 2 then c2 else if k = 3 then c3 else if k = 4 then c4 else if k = 5 then c5 else if k = 6 then c6 else c7, fun k => if k = 0 then iS0 else if k = 1 then iS1 else if k = 2 then iS2 else if k = 3 then iS3 else if k = 4 then iS4 else if k = 5 then iS5 else if k = 6 then iS6 else iS7), fun k => if k = 0 then a0 else if k = 1 then a1 else if k = 2 then a2 else if k = 3 then a3 else if k = 4 then a4 else a5, s.heap, fun i => if i = 7 then b else adK i, fun i => if i = 7 then L else adV i) := ⟨_, rfl⟩
  have eN : gx_N G = s.heap.size := by rw [hG]
  have eH : G.2.2.1 = s.heap := by rw [hG]
  have e7 : G.2.2.2.1 7 = b := by rw [hG]; rfl
  have eL : G.2.2.2.2 7 = L := by rw [hG]; rfl
  have eK : ∀ i, i < 7 → G.2.2.2.1 i = adK i := fun i hi => by rw [hG]; exact if_neg (by omega)
  have eV : ∀ i, i < 7 → G.2.2.2.2 i = adV i := fun i hi => by rw [hG]; exact if_neg (by omega)
  have hI : gx_I G s := by
    refine ⟨⟨fun k q hq => ?_, fun k q hq => ?_⟩, ⟨?_, ?_, ?_⟩, ⟨fun i hi => ?_, fun i j hi hj e => ?_⟩, fun i hi => ?_, fun q hq => ?_, fun C hC => ?_⟩
    · rw [hG]
      match k, hq with
      | 0, hq => cases hq; exact hK0
      | 1, hq => cases hq; exact hK1
      | 2, hq => cases hq; exact hK2
      | 3, hq => cases hq; exact hK3
      | 4, hq => cases hq; exact hK4
      | 5, hq => cases hq; exact hK5
      | 6, hq => cases hq; exact hK6
      | 7, hq => cases hq; exact hK7
      | k + 8, hq => simp [gx_cl] at hq
    · rw [hG] at hq
      match k, hq with
      | 0, hq => cases hq; exact hA0
      | 1, hq => cases hq; exact hA1
      | 2, hq => cases hq; exact hA2
      | 3, hq => cases hq; exact hA3
      | 4, hq => cases hq; exact hA4
      | 5, hq => cases hq; exact hA5
      | k + 6, hq => simp [gx_tys] at hq
    · rw [eN, eH]; exact va_Zof (hts _ st_c.1) (hts _ st_c.2) (va_eqt (hs _ st_a)) hA
    · rw [eN, eH]; exact va_Zqof (hts _ st_d.1) (hts _ st_d.2) (hs _ st_b) hA
    · obtain ⟨scr, x1, x2, x3, x4, x5⟩ := hX
      rw [eN, eH, e7, eL]
      refine ⟨scr, x1, x2, x3, by omega, by rw [x4], fun j hj => ?_, hA b hbl⟩
      rw [x5 j hj]
      have e : gx_xs G j = xs j := by
        unfold gx_xs
        rw [eH, e7, x1]
        show (match scr.slots[j]? with | some (.int x) => x | _ => 0) = xs j
        rw [x5 j hj]
      show some (Value.int (xs j)) = some (Value.int (gx_xs G j))
      rw [e]
    · rw [eN, eH, eK i hi, eV i hi]; exact hSt.1 i hi
    · rw [eK i hi, eK j hj] at e; exact hSt.2 i j hi hj e
    · rw [eK i hi]; exact vk_R.of (hts _ (st_7 i hi)) (hEv i hi)
    · exact va_Nw.of rfl (hts _ (st_8 q hq))
    · exact va_AO.of (hts _ (st_9 C hC))
  have hl := lv_entry ([.ref b]) (n := 4) (Nat.le_of_ble_eq_true rfl)
  rw [lg_entry_eq]
  generalize (lg_sl ([.ref b]) ++ List.replicate (4 - (lg_sl ([.ref b])).length) Slot.unset).toArray = ls at hl ⊢
  have hl : lv_has ls 4 [(0, .ref b)] := hl
  have hR : gx_R G (hL G []) s.heap := by
    refine ⟨eN.symm, Nat.le_refl _, fun q hq => by rw [eH], fun a x hx => ?_⟩
    have hx : (if a < gx_N G then none else ([] : List va_E)[a - gx_N G]?) = some x := hx
    split at hx <;> cases hx
  have K := law_0 (G := G) (Q := fun r _ => r = some (.int (nI 1))) 0 (by rw [eL]; exact hLE) (fun _ => rfl)
  rw [e7] at K
  have K1 := K p l e room_1 s m #[Value.ref b] below meth c s.heap [] 0 0 ls ⟨hx, hb, hml, hr, hlocks, hown, (fun q => by cases q), hg, hI, by decide, by decide⟩ hR (fun q hq => by cases hq) hl (by decide) (by decide)
  intro T hT X
  obtain ⟨t, st, o, h1, h2, ⟨r, h, ho, hq, -⟩, J, hF, hfree⟩ := K1 T hT X
  refine ⟨t, st, o, h1, h2, ?_, hF.1, hF.2.1, State.sameButNew.drop_fresh (L := []) (J := J) hF.2.2 (fun x hx => by have := hfree x hx; rw [eN] at this; exact this)⟩
  rw [ho, hq]; rfl
