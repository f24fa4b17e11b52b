/-! ===== the plain state stays in its bounds ===== -/
theorem SOk_t {S : pS} (hS : SOk S) {x : (Nat → Nat) × Nat} (h1 : x.2 ≤ 160) (h2 : ∀ q, q < x.2 → x.1 q ≤ 127) : SOk (pS_t S x) := ⟨hS.1, hS.2.1, ⟨h1, h2⟩, hS.2.2.2⟩
theorem SOk_f {S : pS} (hS : SOk S) (k x : Nat) : SOk (pS_f S k x) := hS
theorem SOk_s {S : pS} (hS : SOk S) {s : ps} (h : sOk s (S.1.1.2.2 6)) : SOk (pS_s S s) := ⟨⟨hS.1.1, hS.1.2.1, hS.1.2.2.1, h⟩, hS.2⟩
theorem SOk_h {S : pS} (hS : SOk S) {k : Nat} {x : (Nat → Int32) × Nat × Nat} (h : x.2.2 ≤ 40 ∧ (x.2.1 ≤ 2 ∨ x.2.1 = 9)) : SOk (pS_h S k x) := by
  refine ⟨hS.1, hS.2.1, hS.2.2.1, fun q hq => ?_⟩
  show (if q = k then x else S.2.2.2.2.2 q).2.2 ≤ 40 ∧ ((if q = k then x else S.2.2.2.2.2 q).2.1 ≤ 2 ∨ (if q = k then x else S.2.2.2.2.2 q).2.1 = 9)
  split
  · exact h
  · exact hS.2.2.2 q hq
theorem ok_feed {S : pS} (hS : SOk S) (v : Int32) : SOk (sp_feed S v).2 := by
  unfold sp_feed
  split
  · next h =>
    split
    · exact hS
    · next h2 =>
      obtain ⟨j, hj, rfl⟩ := ix_of h (by decide)
      refine SOk_t hS (show S.2.2.2.1.2 + 1 ≤ 160 by omega) (fun q hq => ?_)
      have hq : q < S.2.2.2.1.2 + 1 := hq
      show (if q = S.2.2.2.1.2 then nat (nI j) else S.2.2.2.1.1 q) ≤ 127
      split
      · rw [nat_nI (by omega)]; exact hj
      · exact hS.2.2.1.2 q (by omega)
  · exact hS
theorem ok_end {S : pS} (hS : SOk S) (v : Int32) : SOk (sp_end S v).2 := by
  unfold sp_end
  split
  · next h =>
    have h160 := hS.2.2.1.1
    obtain ⟨j, hj, rfl⟩ := ix_of h (by omega)
    have e : nat (nI j) = j := nat_nI (by omega)
    refine SOk_t hS (show nat (nI j) ≤ 160 by omega) (fun q hq => hS.2.2.1.2 q ?_)
    have hq : q < nat (nI j) := hq
    omega
  · exact hS
theorem no_parts {S : pS} {g w v : Int32} (h : sp_no S g w v = nI 0) (hO : pOk S.1.1) : ∃ j k e, j < S.1.1.2.2 6 ∧ g = nI j ∧ w = nI k ∧ v = nI e ∧ ((k = 0 ∧ e ≤ 3) ∨ (k = 1 ∧ e ≤ 11 ∧ S.1.1.2.1 j = false) ∨ (k = 2 ∧ e ≤ 20)) := by
  unfold sp_no at h
  split at h
  · next hb =>
    rw [Bool.and_eq_true] at hb
    obtain ⟨j, hj, rfl⟩ := isG_of hb.1 hO
    have h4 : S.1.1.2.2 6 ≤ 4 := hO.2.2.2.2.1
    have h2 := hb.2
    unfold grb at h2
    rw [nat_nI (by omega)] at h
    by_cases w0 : w = 0
    · rw [if_pos w0] at h2
      obtain ⟨e, he, rfl⟩ := ix_of h2 (by decide)
      exact ⟨j, 0, e, hj, rfl, w0, rfl, Or.inl ⟨rfl, he⟩⟩
    · rw [if_neg w0] at h2
      by_cases w1 : w = 1
      · rw [if_pos w1] at h2
        obtain ⟨e, he, rfl⟩ := ix_of h2 (by decide)
        refine ⟨j, 1, e, hj, rfl, w1, rfl, Or.inr (Or.inl ⟨rfl, he, ?_⟩)⟩
        cases hp0 : S.1.1.2.1 j with
        | false => rfl
        | true => rw [if_pos ⟨w1, hp0⟩] at h; exact absurd h (by decide +kernel)
      · rw [if_neg w1] at h2
        by_cases w2 : w = 2
        · rw [if_pos w2] at h2
          obtain ⟨e, he, rfl⟩ := ix_of h2 (by decide)
          exact ⟨j, 2, e, hj, rfl, w2, rfl, Or.inr (Or.inr ⟨rfl, he⟩)⟩
        · rw [if_neg w2] at h2; cases h2
  · exact absurd h (by decide +kernel)
theorem ok_alter {S : pS} (hS : SOk S) (g w v : Int32) : SOk (sp_alter S g w v).2 := by
  unfold sp_alter
  split
  · next h =>
    obtain ⟨j, k, e, hj, rfl, rfl, rfl, hk⟩ := no_parts h hS.1.1
    have h4 : S.1.1.2.2 6 ≤ 4 := hS.1.1.2.2.2.2.1
    have hk2 : k ≤ 2 ∧ e ≤ 20 := by
      rcases hk with ⟨a, b⟩ | ⟨a, b, -⟩ | ⟨a, b⟩ <;> omega
    show SOk (pS_p S (pw_a S.1.1 (nat (nI k) + 1) (nat (nI j)) (nat (nI e))))
    rw [nat_nI (by omega), nat_nI (by omega), nat_nI (by omega)]
    refine SOk_put hS (pw_a_ok hS.1.1 ?_) (coh_a hS.1.2.1 ?_) rfl hS.1.2.2.1
    · rcases hk with ⟨a, b⟩ | ⟨a, b, -⟩ | ⟨a, b⟩ <;> omega
    · rcases hk with ⟨a, b⟩ | ⟨a, b, c⟩ | ⟨a, b⟩
      · left; omega
      · right; exact c
      · left; omega
  · exact hS
theorem ok_fame {S : pS} (hS : SOk S) (e v : Int32) : SOk (sp_fame S e v).2 := by
  unfold sp_fame
  split
  · next h =>
    rw [Bool.and_eq_true] at h
    obtain ⟨j, hj, rfl⟩ := ix_of h.1 (by decide)
    obtain ⟨x, hx, rfl⟩ := ix_of h.2 (by decide)
    show SOk (pS_p S (pw_a S.1.1 0 (nat (nI j)) (nat (nI x))))
    rw [nat_nI (by omega), nat_nI (by omega)]
    exact SOk_put hS (pw_a_ok hS.1.1 (by omega)) (coh_a hS.1.2.1 (Or.inl (by decide))) rfl hS.1.2.2.1
  · exact hS
theorem ok_leave {S : pS} (hS : SOk S) (g : Int32) : SOk (sp_leave S g).2 := by
  unfold sp_leave
  split
  · split
    · have hO := hS.1.1
      refine SOk_put hS ⟨hO.1, hO.2.1, hO.2.2.1, fun j hj => ?_, hO.2.2.2.2⟩ (fun j hj h1 => ?_) rfl hS.1.2.2.1
      · show (if j = nat g then false else S.1.1.2.1 j) = false
        split
        · rfl
        · exact hO.2.2.2.1 j hj
      · have h1 : (if j = nat g then false else S.1.1.2.1 j) = true := h1
        split at h1
        · cases h1
        · exact hS.1.2.1 j hj h1
    · exact hS
  · exact hS
theorem ok_call {S : pS} (hS : SOk S) (e : Int32) : SOk (sp_call S e).2 := by
  unfold sp_call
  split
  · next h =>
    obtain ⟨j, hj, rfl⟩ := ix_of h (by decide)
    split
    · exact hS
    · next h6 =>
      have hO := hS.1.1
      show SOk (pS_p S (pw_f (pw_a S.1.1 4 (S.1.1.2.2 7) (nat (nI j))) 7 (S.1.1.2.2 7 + 1)))
      rw [nat_nI (by omega)]
      have h1 := pw_ex_ok hO (i := S.1.1.2.2 7) (e := j) (Nat.le_refl _) (by omega) hj
      have e1 : pw_ex S.1.1 (S.1.1.2.2 7) j = pw_f (pw_a S.1.1 4 (S.1.1.2.2 7) j) 7 (S.1.1.2.2 7 + 1) := by
        unfold pw_ex
        rw [Nat.max_eq_right (by omega)]
      rw [e1] at h1
      refine SOk_put hS h1 (fun q hq h2 => ?_) rfl hS.1.2.2.1
      exact coh_a hS.1.2.1 (k := 4) (j := S.1.1.2.2 7) (e := j) (Or.inl (by decide)) q hq h2
  · exact hS
theorem ok_cut {S : pS} (hS : SOk S) (n : Int32) : SOk (sp_cut S n).2 := by
  unfold sp_cut
  split
  · next h =>
    have hO := hS.1.1
    have h6 : S.1.1.2.2 7 ≤ 6 := hO.2.2.2.2.2.1
    obtain ⟨j, hj, rfl⟩ := ix_of h (by omega)
    show SOk (pS_p S (pw_f S.1.1 7 (nat (nI j))))
    rw [nat_nI (by omega)]
    exact SOk_put hS ⟨hO.1, hO.2.1, fun q hq => hO.2.2.1 q (Nat.lt_of_lt_of_le hq hj), hO.2.2.2.1, hO.2.2.2.2.1, Nat.le_trans hj h6, hO.2.2.2.2.2.2⟩ hS.1.2.1 rfl hS.1.2.2.1
  · exact hS
theorem ok_days {S : pS} (hS : SOk S) (n : Int32) : SOk (sp_days S n).2 := by
  unfold sp_days
  split
  · split
    · next h => exact SOk_put hS (pw_days_ok hS.1.1 _) (coh_days hS.1.2.1 _) (pw_days_f _ _ _ (by decide) (by decide) (by decide)) (by rw [pw_days_day]; exact h)
    · exact hS
  · exact hS
theorem ok_see {S : pS} (hS : SOk S) (n g e : Int32) : SOk (sp_see S n g e).2 := by
  unfold sp_see
  split
  · next h =>
    rw [Bool.and_eq_true, Bool.and_eq_true] at h
    obtain ⟨x, hx, rfl⟩ := ix_of h.1 (by decide)
    obtain ⟨j, hj, rfl⟩ := isG_of h.2.1 hS.1.1
    obtain ⟨z, hz, rfl⟩ := ix_of h.2.2 (by decide)
    have h4 : S.1.1.2.2 6 ≤ 4 := hS.1.1.2.2.2.2.1
    split
    · exact hS
    · next h6 =>
      refine SOk_s hS ⟨show S.1.2.2 + 1 ≤ 6 by omega, fun q hq => ?_⟩
      rw [nat_nI (by omega), nat_nI (by omega), nat_nI (by omega)]
      have hq : q < S.1.2.2 + 1 := hq
      show (if q = S.1.2.2 then (if 0 = 0 then x else if 0 = 1 then j else z) else S.1.2.1 0 q) ≤ 20 ∧ (if q = S.1.2.2 then (if 1 = 0 then x else if 1 = 1 then j else z) else S.1.2.1 1 q) < S.1.1.2.2 6 ∧ (if q = S.1.2.2 then (if 2 = 0 then x else if 2 = 1 then j else z) else S.1.2.1 2 q) ≤ 11
      by_cases eq : q = S.1.2.2
      · rw [if_pos eq, if_pos eq, if_pos eq]; exact ⟨hx, hj, hz⟩
      · rw [if_neg eq, if_neg eq, if_neg eq]; exact hS.1.2.2.2.2 q (by omega)
  · exact hS
theorem ok_forget {S : pS} (hS : SOk S) (n : Int32) : SOk (sp_forget S n).2 := by
  unfold sp_forget
  split
  · next h =>
    have h6 := hS.1.2.2.2.1
    obtain ⟨j, hj, rfl⟩ := ix_of h (by omega)
    show SOk (pS_s S (S.1.2.1, nat (nI j)))
    rw [nat_nI (by omega)]
    exact SOk_s hS ⟨show j ≤ 6 by omega, fun q hq => hS.1.2.2.2.2 q (Nat.lt_of_lt_of_le hq hj)⟩
  · exact hS
theorem ok_keep {S : pS} (hS : SOk S) (k : Int32) : SOk (sp_keep S k).2 := by
  unfold sp_keep
  split
  · refine ⟨hS.1, fun q hq hb => ?_, hS.2.2⟩
    have hb : (if q = nat k then true else S.2.1 q) = true := hb
    show iOk (if q = nat k then S.1 else S.2.2.1 q) ∧ (if q = nat k then S.1 else S.2.2.1 q).1.2.2 6 = S.1.1.2.2 6
    by_cases e : q = nat k
    · rw [if_pos e]; exact ⟨hS.1, rfl⟩
    · rw [if_neg e] at hb ⊢; exact hS.2.1 q hq hb
  · exact hS
theorem ok_back {S : pS} (hS : SOk S) (k : Int32) : SOk (sp_back S k).2 := by
  unfold sp_back
  split
  · next h =>
    obtain ⟨j, hj, rfl⟩ := ix_of h (by decide)
    rw [nat_nI (by omega)]
    split
    · next hb =>
      obtain ⟨h1, h2⟩ := hS.2.1 j (by omega) hb
      refine ⟨h1, fun q hq hk => ⟨(hS.2.1 q hq hk).1, ?_⟩, hS.2.2⟩
      show (S.2.2.1 q).1.2.2 6 = (S.2.2.1 j).1.2.2 6
      rw [h2]; exact (hS.2.1 q hq hk).2
    · exact hS
  · exact hS
theorem ok_sheet {S : pS} (hS : SOk S) (k l n : Int32) : SOk (sp_sheet S k l n).2 := by
  unfold sp_sheet
  split
  · next h =>
    rw [Bool.and_eq_true, Bool.and_eq_true, decide_eq_true_eq] at h
    obtain ⟨x, hx, rfl⟩ := ix_of h.2.1 (by decide)
    split
    · next h0 =>
      obtain ⟨m, hm, rfl⟩ := nI_of (Int32.not_lt.mpr h0)
      have h40 := h.2.2
      rw [nI_leI hm (by decide)] at h40
      refine SOk_h hS ⟨?_, Or.inl ?_⟩
      · show nat (nI m) ≤ 40
        rw [nat_nI (by omega)]; exact h40
      · show nat (nI x) ≤ 2
        rw [nat_nI (by omega)]; exact hx
    · exact hS
  · exact hS
theorem ok_lay {S : pS} (hS : SOk S) (k i v : Int32) : SOk (sp_lay S k i v).2 := by
  unfold sp_lay
  split
  · next h =>
    obtain ⟨j, hj, rfl⟩ := ix_of h (by decide)
    split
    · refine SOk_h hS ?_
      rw [nat_nI (by omega)]
      exact hS.2.2.2 j (by omega)
    · exact hS
  · exact hS
theorem rk_ok {S : pS} {x : (Nat → Int32) × Nat × Nat} {l : Nat} {f : Int32} (h40 : x.2.2 ≤ 40) : ∀ m i a, rk S x l f m i = .inl a → okU S x f i → ivx x f i → okU S x f a.2 := by
  intro m
  induction m with
  | zero => intro i a h hok _; cases h; exact hok
  | succ m ih =>
    intro i a h hok hiv
    rw [rk_s] at h
    by_cases h0 : pf x l (f + nI (2 * i)) = 0
    · rw [if_pos h0] at h
      obtain ⟨mm, hfm, hmz⟩ := pf_at hiv h0 h40
      have hnf : nat f = mm := by rw [hfm]; exact nat_nI (by omega)
      by_cases h1 : sp_no S (x.1 (nat f + 2 * i)) (nI 1) (x.1 (nat f + 2 * i + 1)) = nI 0
      · rw [if_pos h1] at h
        refine ih (i + 1) a h (fun j hj => ?_) (Or.inr ⟨mm, hfm, by omega⟩)
        by_cases e : j = i
        · subst e
          rw [hnf] at h1
          exact ⟨mm, hfm, by omega, h1⟩
        · exact hok j (by omega)
      · rw [if_neg h1] at h; cases h
    · rw [if_neg h0] at h
      cases h
      exact hok
theorem ok_read {S : pS} (hS : SOk S) (k l f n : Int32) : SOk (sp_read S k l f n).2 := by
  unfold sp_read
  split
  · next h =>
    rw [Bool.and_eq_true] at h
    obtain ⟨j, hj, rfl⟩ := ix_of h.1 (by decide)
    rw [nat_nI (by omega)]
    cases hr : rk S (S.2.2.2.2.2 j) (nat l) f (nat n) 0 with
    | inl a =>
      have h0 := rk_ok (hS.2.2.2 j (by omega)).1 _ _ _ hr (fun q hq => absurd hq (Nat.not_lt_zero _)) (Or.inl rfl)
      exact SOk_f (rap_SOk hS a.2 h0) 1 a.1
    | inr i => exact hS
  · exact hS
theorem ok_text {S : pS} (hS : SOk S) : SOk (sp_text S).2 := by
  cases hp0 : parse S.2.2.2.1.1 S.2.2.2.1.2 with
  | inl e =>
    rw [sp_text_l hp0]
    exact SOk_f (SOk_t hS (x := (S.2.2.2.1.1, 0)) (Nat.zero_le _) (fun q hq => absurd hq (Nat.not_lt_zero _))) 0 e.1
  | inr x =>
    rw [sp_text_r hp0]
    obtain ⟨h1, h2, h3, h4⟩ := parse_ok hp0
    refine ⟨⟨h1, fun j hj hb => ?_, ?_, ⟨Nat.zero_le _, fun j hj => absurd hj (Nat.not_lt_zero _)⟩⟩, fun k hk hb => ?_, ⟨Nat.zero_le _, fun q hq => absurd hq (Nat.not_lt_zero _)⟩, hS.2.2.2⟩
    · have hb : x.2.2.1 j = true := hb
      rw [h2 j] at hb; cases hb
    · show x.2.2.2 10 ≤ 999
      rw [h4]; omega
    · cases hb
theorem mv_ok {p : pw} (h : pOk p) {e : Nat} (he : e ≤ 11) (n : Nat) : pOk (pw_mv p e n) ∧ (pw_mv p e n).2.2 6 = p.2.2 6 ∧ (pw_mv p e n).2.2 8 = e ∧ (pw_mv p e n).2.2 10 = p.2.2 10 ∧ (pw_mv p e n).2.1 = p.2.1 ∧ ∀ j, j < n → p.2.1 j = true → (pw_mv p e n).1 2 j = e := by
  refine ⟨⟨fun j hj => ?_, fun j hj => ?_, fun j hj => ?_, h.2.2.2.1, h.2.2.2.2.1, h.2.2.2.2.2.1, he, h.2.2.2.2.2.2.2⟩, rfl, rfl, rfl, rfl, fun j hj hb => ?_⟩
  · have h0 := h.1 j hj
    simp [pw_mv, pw_f]; exact h0
  · obtain ⟨a, b, c⟩ := h.2.1 j hj
    refine ⟨by simp [pw_mv, pw_f]; exact a, ?_, by simp [pw_mv, pw_f]; exact c⟩
    show (if 2 = 2 ∧ j < n ∧ p.2.1 j = true then e else p.1 2 j) ≤ 11
    split
    · exact he
    · exact b
  · have h0 := h.2.2.1 j hj
    simp [pw_mv, pw_f]; exact h0
  · show (if 2 = 2 ∧ j < n ∧ p.2.1 j = true then e else p.1 2 j) = e
    rw [if_pos ⟨rfl, hj, hb⟩]
theorem ok_go {S : pS} (hS : SOk S) (e : Int32) : SOk (sp_go S e).2 := by
  unfold sp_go
  split
  · next h =>
    obtain ⟨j, hj, rfl⟩ := ix_of h (by decide)
    show SOk (pS_p S (pw_move S.1.1 (nat (nI j))))
    rw [nat_nI (by omega)]
    obtain ⟨a1, a2, a3, a4, a5, a6⟩ := mv_ok hS.1.1 hj (S.1.1.2.2 6)
    refine SOk_put hS a1 (fun q hq hb => ?_) a2 (by show (pw_mv S.1.1 j (S.1.1.2.2 6)).2.2 10 ≤ 999; rw [a4]; exact hS.1.2.2.1)
    have hq : q < (pw_mv S.1.1 j (S.1.1.2.2 6)).2.2 6 := hq
    have hb : (pw_mv S.1.1 j (S.1.1.2.2 6)).2.1 q = true := hb
    show (pw_mv S.1.1 j (S.1.1.2.2 6)).1 2 q = (pw_mv S.1.1 j (S.1.1.2.2 6)).2.2 8
    rw [a3]
    exact a6 q (by rw [← a2]; exact hq) (by rw [← a5]; exact hb)
  · exact hS
