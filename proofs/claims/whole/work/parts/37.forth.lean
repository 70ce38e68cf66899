/-! ===== the class walks forth ===== -/
abbrev auC (s : Nat → Int32) (p : Int32) (d : Nat) (X : Int32) : Au := auF s p d X (rxC s X)
theorem nI_or (a b : Nat) : nI a ||| nI b = nI (a ||| b) := by
  apply Int32.toBitVec_inj.mp
  show BitVec.ofNat 32 a ||| BitVec.ofNat 32 b = BitVec.ofNat 32 (a ||| b)
  apply BitVec.eq_of_getLsbD_eq
  intro i hi
  simp [BitVec.getLsbD_ofNat, hi]
theorem nI_and (a b : Nat) : nI a &&& nI b = nI (a &&& b) := by
  apply Int32.toBitVec_inj.mp
  show BitVec.ofNat 32 a &&& BitVec.ofNat 32 b = BitVec.ofNat 32 (a &&& b)
  apply BitVec.eq_of_getLsbD_eq
  intro i hi
  simp [BitVec.getLsbD_ofNat, hi]
theorem shr1 : ∀ c, c < 1024 → jshr (nI c) 1 = nI (c >>> 1) := by decide +kernel
theorem ml_1024 {s : Nat → Int32} {X : Int32} (h5 : akN s X 12 ≤ 5) : mlF (rxC s X) 12 ≤ 1024 := by
  rw [ml_C]
  exact Nat.pow_le_pow_right (n := 4) (by decide) h5
set_option maxRecDepth 100000 in
set_option maxHeartbeats 400000 in
theorem c_pay {h : Mem} {s : Nat → Int32} {p : Int32} {d : Nat} {X : Int32} (h5 : akN s X 12 ≤ 5) (P : PR h s p d X) (c m q : Nat) (hc : c < mlF (rxC s X) 12) (hm : m < 24) (hq : q < 8) : Ct yX1_pay cX1_pay 4 (some .int) 0 0 [.ref 38, .int (nI c), .int (nI m), .int (nI q)] h (Ei (nI ((auC s p d X).nx c m q)) h) := by
  refine Ct.of (by decide) (Nat.le_of_ble_eq_true rfl) (fun Γ o ρ => ?_)
  show ca_G Γ 4 _ _ [_, _, _, _] _
  have l := ml_1024 h5
  obtain ⟨e1, e2⟩ := pay_nx (p := p) (d := d) (m := m) (q := q) hc
  have ei : nI m * nI 8 + nI q = nI (8 * m + q) := by rw [ix, Nat.mul_comm]
  have e3 : nI c - (nI (pyF s X m q 12) &&& (nI c ||| jshr (nI c) 1)) = nI ((auC s p d X).nx c m q) := by
    rw [shr1 c (by omega), nI_or, nI_and, pk_sub e2]
    exact congrArg nI e1
  refine g_iload_n (pc := 0) o dX1_pay_0 rfl ?_
  refine g_aload_n (pc := 1) o dX1_pay_1 rfl ?_
  refine g_getR (pc := 2) o 2 rfl rfl rfl inX1 (by decide) lf_X1_18 dX1_pay_2 ?_
  refine g_iload_n (pc := 5) o dX1_pay_5 rfl ?_
  refine g_bipush (pc := 6) o dX1_pay_6 8 rfl ?_
  refine g_imul (pc := 8) o dX1_pay_8 ?_
  refine g_iload_n (pc := 9) o dX1_pay_9 rfl ?_
  refine g_iadd (pc := 10) o dX1_pay_10 ?_
  rw [show nI m * 8 + nI q = nI (8 * m + q) from ei]
  refine n_ialdE (pc := 11) o (8 * m + q) (rfl) rfl ((by omega)) (by decide) (P.2.1 m q hm hq) dX1_pay_11 ?_
  refine g_iload_n (pc := 12) o dX1_pay_12 rfl ?_
  refine g_iload_n (pc := 13) o dX1_pay_13 rfl ?_
  refine g_iconst (pc := 14) o dX1_pay_14 1 rfl ?_
  refine g_ishr (pc := 15) o dX1_pay_15 ?_
  refine g_ior (pc := 16) o dX1_pay_16 ?_
  refine g_iand (pc := 17) o dX1_pay_17 ?_
  refine g_isub (pc := 18) o dX1_pay_18 ?_
  rw [e3]
  exact g_iret o ρ dX1_pay_19 (Ei.mk rfl rfl)
set_option maxRecDepth 100000 in
set_option maxHeartbeats 400000 in
theorem c_row {h : Mem} {N : Nat} (e : h.1 38 8 = nI N) (m c : Nat) : Ct yX1_row cX1_row 3 (some .int) 0 0 [.ref 38, .int (nI m), .int (nI c)] h (Ei (nI (m * (N + 1) + c)) h) := by
  refine Ct.of (by decide) (Nat.le_of_ble_eq_true rfl) (fun Γ o ρ => ?_)
  show ca_G Γ 3 _ _ [_, _, _] _
  refine g_iload_n (pc := 0) o dX1_row_0 rfl ?_
  refine g_aload_n (pc := 1) o dX1_row_1 rfl ?_
  refine g_getIE (pc := 2) o 8 rfl rfl rfl inX1 (by decide) lf_X1_59 (e) dX1_row_2 ?_
  refine g_iconst (pc := 5) o dX1_row_5 1 rfl ?_
  refine g_iadd (pc := 6) o dX1_row_6 ?_
  refine g_imul (pc := 7) o dX1_row_7 ?_
  refine g_iload_n (pc := 8) o dX1_row_8 rfl ?_
  refine g_iadd (pc := 9) o dX1_row_9 ?_
  rw [show nI m * (nI N + 1) + nI c = nI (m * (N + 1) + c) by rw [nI_1, pk_mul, nI_add]]
  exact g_iret o ρ dX1_row_10 (Ei.mk rfl rfl)

