/-! ===== cost, setCost ===== -/
set_option maxRecDepth 100000 in
set_option maxHeartbeats 400000 in
theorem c_cost {h : Mem} (r q : Nat) (hr : r < 24576) : Ct yX1_cost cX1_cost 3 (some .int) 0 0 [.ref 38, .int (nI r), .int (nI q)] h (Ei (byteF (h.2 r) q) h) := by
  refine Ct.of (by decide) (Nat.le_of_ble_eq_true rfl) (fun Γ o ρ => ?_)
  show ca_G Γ 3 _ _ [_, _, _] _
  refine g_aload_n (pc := 0) o dX1_cost_0 rfl ?_
  refine g_getR (pc := 1) o 4 rfl rfl rfl inX1 (by decide) lf_X1_24 dX1_cost_1 ?_
  refine g_iload_n (pc := 4) o dX1_cost_4 rfl ?_
  refine n_lald (pc := 5) o r (rfl) rfl ((by omega)) (by decide) dX1_cost_5 ?_
  refine g_bipush (pc := 6) o dX1_cost_6 8 rfl ?_
  refine g_iload_n (pc := 8) o dX1_cost_8 rfl ?_
  refine g_imul (pc := 9) o dX1_cost_9 ?_
  rw [show (8 : Int32) * nI q = nI (8 * q) from pk_mul 8 q]
  refine g_lushr (pc := 10) o dX1_cost_10 ?_
  refine g_l2i (pc := 11) o dX1_cost_11 ?_
  refine g_sipush (pc := 12) o dX1_cost_12 255 rfl ?_
  refine g_iand (pc := 15) o dX1_cost_15 ?_
  exact g_iret o ρ dX1_cost_16 (Ei.mk rfl rfl)
set_option maxRecDepth 100000 in
set_option maxHeartbeats 400000 in
theorem c_setCost {h : Mem} (r q : Nat) (v : Int32) (hr : r < 24576) : Ct yX1_setCost cX1_setCost 5 none 0 0 [.ref 38, .int (nI r), .int (nI q), .int v] h (Ev (ml h r (seF (h.2 r) q v))) := by
  refine Ct.of (by decide) (Nat.le_of_ble_eq_true rfl) (fun Γ o ρ => ?_)
  show ca_G Γ 5 _ _ [_, _, _, _, _] _
  refine g_bipush (pc := 0) o dX1_setCost_0 8 rfl ?_
  refine g_iload_n (pc := 2) o dX1_setCost_2 rfl ?_
  refine g_imul (pc := 3) o dX1_setCost_3 ?_
  rw [show (8 : Int32) * nI q = nI (8 * q) from pk_mul 8 q]
  refine g_istore (pc := 4) o dX1_setCost_4 (by decide) ?_
  show ca_G Γ 5 _ _ [_, _, _, _, _] _
  refine g_aload_n (pc := 6) o dX1_setCost_6 rfl ?_
  refine g_getR (pc := 7) o 4 rfl rfl rfl inX1 (by decide) lf_X1_24 dX1_setCost_7 ?_
  refine g_iload_n (pc := 10) o dX1_setCost_10 rfl ?_
  refine g_aload_n (pc := 11) o dX1_setCost_11 rfl ?_
  refine g_getR (pc := 12) o 4 rfl rfl rfl inX1 (by decide) lf_X1_24 dX1_setCost_12 ?_
  refine g_iload_n (pc := 15) o dX1_setCost_15 rfl ?_
  refine n_lald (pc := 16) o r (rfl) rfl ((by omega)) (by decide) dX1_setCost_16 ?_
  refine g_ldc2 (pc := 17) o dX1_setCost_17 lc_X1_120 ?_
  refine g_iload (pc := 20) o dX1_setCost_20 rfl ?_
  refine g_lshl (pc := 22) o dX1_setCost_22 ?_
  refine g_ldc2 (pc := 23) o dX1_setCost_23 lc_X1_102 ?_
  refine g_lxor (pc := 26) o dX1_setCost_26 ?_
  refine g_land (pc := 27) o dX1_setCost_27 ?_
  refine g_iload_n (pc := 28) o dX1_setCost_28 rfl ?_
  refine g_i2l (pc := 29) o dX1_setCost_29 ?_
  refine g_iload (pc := 30) o dX1_setCost_30 rfl ?_
  refine g_lshl (pc := 32) o dX1_setCost_32 ?_
  refine g_lor (pc := 33) o dX1_setCost_33 ?_
  refine n_last (pc := 34) o r (rfl) rfl ((by omega)) (by decide) dX1_setCost_34 ?_
  exact g_vret o ρ dX1_setCost_35 ⟨rfl, rfl⟩

