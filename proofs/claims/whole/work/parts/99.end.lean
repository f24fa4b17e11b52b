set_option maxHeartbeats 4000000 in
set_option maxRecDepth 100000 in
theorem c_W_isPaired {G : gx_G} {σ : gs_S} (d i : Nat) (hi : i < gs_cnt 5) (g : Int32) : gx_D G yX5_isPaired mX5_isPaired d [.ref (gs_a G 5 i 0), .int g] (hp G σ) (some (.int (if (((σ 5 i).2.1 5) >>> (g &&& 31)) &&& 1 = 1 then 1 else 0))) (hp G σ) := by
  refine gx_K.of' (lv := [(0, _), (1, _)]) (by decide) rfl (by decide) (Nat.le_of_ble_eq_true rfl) rfl ?_
  refine J_aload_n (i := 0) (n := 1) dX5_isPaired_0 rfl rfl rfl ?_
  refine T_getO (k := 5) (n := 4) wk_X5 dX5_isPaired_1 wf_X5_33 (by decide) (by first | assumption | decide) rfl rfl ?_
  refine J_iload_n (i := 1) (n := 5) dX5_isPaired_4 rfl rfl rfl ?_
  refine J_ishr (n := 6) dX5_isPaired_5 rfl ?_
  refine J_iconst (n := 7) dX5_isPaired_6 kI_1 rfl ?_
  refine J_iand (n := 8) dX5_isPaired_7 rfl ?_
  refine J_iconst (n := 9) dX5_isPaired_8 kI_1 rfl ?_
  refine J_icmp_ne (tgt := 16) (n := 12) dX5_isPaired_9 (by decide) rfl (fun c_9 => ?_) (fun c_9 => ?_)
  · refine J_iconst (n := 17) dX5_isPaired_16 kI_0 rfl ?_
    refine J_iret dX5_isPaired_17 rfl (by first | exact kN_0 | exact kN_1) ?_
    first | exact ⟨by rw [if_pos (by simpa using c_9)], rfl⟩ | exact ⟨by rw [if_neg (by simpa using c_9)], rfl⟩
  · refine J_iconst (n := 13) dX5_isPaired_12 kI_1 rfl ?_
    refine J_goto (tgt := 17) dX5_isPaired_13 (by decide) ?_
    refine J_iret dX5_isPaired_17 rfl (by first | exact kN_0 | exact kN_1) ?_
    first | exact ⟨by rw [if_pos (by simpa using c_9)], rfl⟩ | exact ⟨by rw [if_neg (by simpa using c_9)], rfl⟩
