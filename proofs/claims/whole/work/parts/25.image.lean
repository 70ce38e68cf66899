/-! ===== images ===== -/
def x2M (d s : Nat) (h : Mem) : Mem := mcp h (s + 2) (d + 2) 0 0 8
def x5M (d s : Nat) (h : Mem) : Mem := mw (mcp h (s + 4) (d + 4) 0 0 240) (d + 3) 1 (h.1 (s + 3) 1)
def x7M (d s : Nat) (h : Mem) : Mem := mw (mcp h (s + 6) (d + 6) 0 0 84) (d + 5) 1 (h.1 (s + 5) 1)
def x6M (d s : Nat) (h : Mem) : Mem := mcp (mcp (mcp (mcp h (s + 8) (d + 8) 0 0 5) (s + 9) (d + 9) 0 0 5) (s + 10) (d + 10) 0 0 30) (s + 11) (d + 11) 0 0 6
def x0M (d s : Nat) (h : Mem) : Mem := mw (mcp (mcp (x6M d s (x7M d s (x5M d s (x2M d s h)))) (s + 12) (d + 12) 0 0 6) (s + 13) (d + 13) 0 0 10) d 6 (h.1 s 6)
theorem BF.cg {nb so sr to tr sp bo rm bk gv bl hr s s2 : Nat → Int32} (H : BF nb so sr to tr sp bo rm bk gv bl hr s) (e : ∀ i, i < 337 → s2 i = s i) : BF nb so sr to tr sp bo rm bk gv bl hr s2 := by
  obtain ⟨a1, a2, a3, a4, a5, a6, a7, a8, a9, a10, a11, a12⟩ := H
  refine ⟨fun j hj => ?_, ?_, fun k hk => ?_, ?_, fun j hj => ?_, fun j hj => ?_, ?_, fun j hj => ?_, fun j hj => ?_, fun j hj => ?_, fun j hj => ?_, fun j hj => ?_⟩
  · rw [e _ (by omega)]; exact a1 j hj
  · rw [e _ (by omega)]; exact a2
  · rw [e _ (by omega), e _ (by omega), e _ (by omega)]; exact a3 k hk
  · rw [e _ (by omega)]; exact a4
  · rw [e _ (by omega)]; exact a5 j hj
  · rw [e _ (by omega)]; exact a6 j hj
  · rw [e _ (by omega)]; exact a7
  · rw [e _ (by omega)]; exact a8 j hj
  · rw [e _ (by omega)]; exact a9 j hj
  · rw [e _ (by omega)]; exact a10 j hj
  · rw [e _ (by omega)]; exact a11 j hj
  · rw [e _ (by omega)]; exact a12 j hj
theorem cp0 {f g : Nat → Int32} {n j : Nat} (h : j < n) : va_cpy f g 0 0 n j = f j := sb_cpy0 h
theorem BF.cpy {nb so sr to tr sp bo rm bk gv bl hr s nb2 sr2 tr2 sp2 rm2 bk2 gv2 bl2 hr2 so2 to2 bo2 : Nat → Int32} (H : BF nb so sr to tr sp bo rm bk gv bl hr s) (e1 : so2 1 = so 1) (e2 : to2 1 = to 1) (e3 : bo2 6 = bo 6) : BF (va_cpy nb nb2 0 0 8) so2 (va_cpy sr sr2 0 0 240) to2 (va_cpy tr tr2 0 0 84) (va_cpy sp sp2 0 0 10) bo2 (va_cpy rm rm2 0 0 5) (va_cpy bk bk2 0 0 5) (va_cpy gv gv2 0 0 30) (va_cpy bl bl2 0 0 6) (va_cpy hr hr2 0 0 6) s := by
  obtain ⟨a1, a2, a3, a4, a5, a6, a7, a8, a9, a10, a11, a12⟩ := H
  refine ⟨fun j hj => ?_, e1.trans a2, fun k hk => ?_, e2.trans a4, fun j hj => ?_, fun j hj => ?_, e3.trans a7, fun j hj => ?_, fun j hj => ?_, fun j hj => ?_, fun j hj => ?_, fun j hj => ?_⟩
  · rw [cp0 hj]; exact a1 j hj
  · rw [cp0 (by omega), cp0 (by omega), cp0 (by omega), cp0 (by omega)]; exact a3 k hk
  · rw [cp0 hj]; exact a5 j hj
  · rw [cp0 hj]; exact a6 j hj
  · rw [cp0 hj]; exact a8 j hj
  · rw [cp0 hj]; exact a9 j hj
  · rw [cp0 hj]; exact a10 j hj
  · rw [cp0 hj]; exact a11 j hj
  · rw [cp0 hj]; exact a12 j hj
set_option maxRecDepth 100000 in
set_option maxHeartbeats 400000 in
theorem c_tk2_15_1 (h : Mem) : Ct yX2_takeFrom cX2_takeFrom 2 none 1 60 [.ref 16, .ref 2] h (Ev (x2M 15 1 h)) := by
  refine Ct.of (by decide) (Nat.le_of_ble_eq_true rfl) (fun Γ o ρ => ?_)
  show ca_G Γ 2 _ _ [_, _] _
  refine g_aload_n (pc := 0) o dX2_takeFrom_0 rfl ?_
  refine g_getR (pc := 1) o 0 rfl rfl rfl inX2 (by decide) lf_X2_9 dX2_takeFrom_1 ?_
  refine g_iconst (pc := 4) o dX2_takeFrom_4 0 rfl ?_
  refine g_aload_n (pc := 5) o dX2_takeFrom_5 rfl ?_
  refine g_getR (pc := 6) o 0 rfl rfl rfl inX2 (by decide) lf_X2_9 dX2_takeFrom_6 ?_
  refine g_iconst (pc := 9) o dX2_takeFrom_9 0 rfl ?_
  refine g_bipush (pc := 10) o dX2_takeFrom_10 8 rfl ?_
  refine n_acopy (pc := 12) o (0) (0) (8) (rfl) (rfl) (rfl) rfl rfl (by omega) (by omega) (by decide) lk_X2_28 mn_acopy ms_acopy mi_acopy (by decide) (Nat.le_of_ble_eq_true rfl) dX2_takeFrom_12 ?_
  exact g_vret o ρ dX2_takeFrom_15 ⟨rfl, rfl⟩
set_option maxRecDepth 100000 in
set_option maxHeartbeats 400000 in
theorem c_tk5_15_1 (h : Mem) : Ct yX5_takeFrom cX5_takeFrom 2 none 1 60 [.ref 18, .ref 4] h (Ev (x5M 15 1 h)) := by
  refine Ct.of (by decide) (Nat.le_of_ble_eq_true rfl) (fun Γ o ρ => ?_)
  show ca_G Γ 2 _ _ [_, _] _
  refine g_aload_n (pc := 0) o dX5_takeFrom_0 rfl ?_
  refine g_getR (pc := 1) o 0 rfl rfl rfl inX5 (by decide) lf_X5_11 dX5_takeFrom_1 ?_
  refine g_iconst (pc := 4) o dX5_takeFrom_4 0 rfl ?_
  refine g_aload_n (pc := 5) o dX5_takeFrom_5 rfl ?_
  refine g_getR (pc := 6) o 0 rfl rfl rfl inX5 (by decide) lf_X5_11 dX5_takeFrom_6 ?_
  refine g_iconst (pc := 9) o dX5_takeFrom_9 0 rfl ?_
  refine g_sipush (pc := 10) o dX5_takeFrom_10 240 rfl ?_
  refine n_acopy (pc := 13) o (0) (0) (240) (rfl) (rfl) (rfl) rfl rfl (by omega) (by omega) (by decide) lk_X5_31 mn_acopy ms_acopy mi_acopy (by decide) (Nat.le_of_ble_eq_true rfl) dX5_takeFrom_13 ?_
  refine g_aload_n (pc := 16) o dX5_takeFrom_16 rfl ?_
  refine g_aload_n (pc := 17) o dX5_takeFrom_17 rfl ?_
  refine g_getIE (pc := 18) o 1 rfl rfl rfl inX5 (by decide) lf_X5_15 (rfl) dX5_takeFrom_18 ?_
  refine g_put (pc := 21) o 1 rfl rfl rfl inX5 tyX5_ok nmX5 (by decide) lf_X5_15 rfl rfl rfl dX5_takeFrom_21 ?_
  exact g_vret o ρ dX5_takeFrom_24 ⟨rfl, rfl⟩
set_option maxRecDepth 100000 in
set_option maxHeartbeats 400000 in
theorem c_tk7_15_1 (h : Mem) : Ct yX7_takeFrom cX7_takeFrom 2 none 1 60 [.ref 20, .ref 6] h (Ev (x7M 15 1 h)) := by
  refine Ct.of (by decide) (Nat.le_of_ble_eq_true rfl) (fun Γ o ρ => ?_)
  show ca_G Γ 2 _ _ [_, _] _
  refine g_aload_n (pc := 0) o dX7_takeFrom_0 rfl ?_
  refine g_getR (pc := 1) o 0 rfl rfl rfl inX7 (by decide) lf_X7_11 dX7_takeFrom_1 ?_
  refine g_iconst (pc := 4) o dX7_takeFrom_4 0 rfl ?_
  refine g_aload_n (pc := 5) o dX7_takeFrom_5 rfl ?_
  refine g_getR (pc := 6) o 0 rfl rfl rfl inX7 (by decide) lf_X7_11 dX7_takeFrom_6 ?_
  refine g_iconst (pc := 9) o dX7_takeFrom_9 0 rfl ?_
  refine g_bipush (pc := 10) o dX7_takeFrom_10 84 rfl ?_
  refine n_acopy (pc := 12) o (0) (0) (84) (rfl) (rfl) (rfl) rfl rfl (by omega) (by omega) (by decide) lk_X7_44 mn_acopy ms_acopy mi_acopy (by decide) (Nat.le_of_ble_eq_true rfl) dX7_takeFrom_12 ?_
  refine g_aload_n (pc := 15) o dX7_takeFrom_15 rfl ?_
  refine g_aload_n (pc := 16) o dX7_takeFrom_16 rfl ?_
  refine g_getIE (pc := 17) o 1 rfl rfl rfl inX7 (by decide) lf_X7_15 (rfl) dX7_takeFrom_17 ?_
  refine g_put (pc := 20) o 1 rfl rfl rfl inX7 tyX7_ok nmX7 (by decide) lf_X7_15 rfl rfl rfl dX7_takeFrom_20 ?_
  exact g_vret o ρ dX7_takeFrom_23 ⟨rfl, rfl⟩
set_option maxRecDepth 100000 in
set_option maxHeartbeats 400000 in
theorem c_tk6_15_1 (h : Mem) : Ct yX6_takeFrom cX6_takeFrom 2 none 1 60 [.ref 22, .ref 8] h (Ev (x6M 15 1 h)) := by
  refine Ct.of (by decide) (Nat.le_of_ble_eq_true rfl) (fun Γ o ρ => ?_)
  show ca_G Γ 2 _ _ [_, _] _
  refine g_aload_n (pc := 0) o dX6_takeFrom_0 rfl ?_
  refine g_getR (pc := 1) o 0 rfl rfl rfl inX6 (by decide) lf_X6_9 dX6_takeFrom_1 ?_
  refine g_iconst (pc := 4) o dX6_takeFrom_4 0 rfl ?_
  refine g_aload_n (pc := 5) o dX6_takeFrom_5 rfl ?_
  refine g_getR (pc := 6) o 0 rfl rfl rfl inX6 (by decide) lf_X6_9 dX6_takeFrom_6 ?_
  refine g_iconst (pc := 9) o dX6_takeFrom_9 0 rfl ?_
  refine g_iconst (pc := 10) o dX6_takeFrom_10 5 rfl ?_
  refine n_acopy (pc := 11) o (0) (0) (5) (rfl) (rfl) (rfl) rfl rfl (by omega) (by omega) (by decide) lk_X6_37 mn_acopy ms_acopy mi_acopy (by decide) (Nat.le_of_ble_eq_true rfl) dX6_takeFrom_11 ?_
  refine g_aload_n (pc := 14) o dX6_takeFrom_14 rfl ?_
  refine g_getR (pc := 15) o 1 rfl rfl rfl inX6 (by decide) lf_X6_15 dX6_takeFrom_15 ?_
  refine g_iconst (pc := 18) o dX6_takeFrom_18 0 rfl ?_
  refine g_aload_n (pc := 19) o dX6_takeFrom_19 rfl ?_
  refine g_getR (pc := 20) o 1 rfl rfl rfl inX6 (by decide) lf_X6_15 dX6_takeFrom_20 ?_
  refine g_iconst (pc := 23) o dX6_takeFrom_23 0 rfl ?_
  refine g_iconst (pc := 24) o dX6_takeFrom_24 5 rfl ?_
  refine n_acopy (pc := 25) o (0) (0) (5) (rfl) (rfl) (rfl) rfl rfl (by omega) (by omega) (by decide) lk_X6_37 mn_acopy ms_acopy mi_acopy (by decide) (Nat.le_of_ble_eq_true rfl) dX6_takeFrom_25 ?_
  refine g_aload_n (pc := 28) o dX6_takeFrom_28 rfl ?_
  refine g_getR (pc := 29) o 2 rfl rfl rfl inX6 (by decide) lf_X6_18 dX6_takeFrom_29 ?_
  refine g_iconst (pc := 32) o dX6_takeFrom_32 0 rfl ?_
  refine g_aload_n (pc := 33) o dX6_takeFrom_33 rfl ?_
  refine g_getR (pc := 34) o 2 rfl rfl rfl inX6 (by decide) lf_X6_18 dX6_takeFrom_34 ?_
  refine g_iconst (pc := 37) o dX6_takeFrom_37 0 rfl ?_
  refine g_bipush (pc := 38) o dX6_takeFrom_38 30 rfl ?_
  refine n_acopy (pc := 40) o (0) (0) (30) (rfl) (rfl) (rfl) rfl rfl (by omega) (by omega) (by decide) lk_X6_37 mn_acopy ms_acopy mi_acopy (by decide) (Nat.le_of_ble_eq_true rfl) dX6_takeFrom_40 ?_
  refine g_aload_n (pc := 43) o dX6_takeFrom_43 rfl ?_
  refine g_getR (pc := 44) o 3 rfl rfl rfl inX6 (by decide) lf_X6_21 dX6_takeFrom_44 ?_
  refine g_iconst (pc := 47) o dX6_takeFrom_47 0 rfl ?_
  refine g_aload_n (pc := 48) o dX6_takeFrom_48 rfl ?_
  refine g_getR (pc := 49) o 3 rfl rfl rfl inX6 (by decide) lf_X6_21 dX6_takeFrom_49 ?_
  refine g_iconst (pc := 52) o dX6_takeFrom_52 0 rfl ?_
  refine g_bipush (pc := 53) o dX6_takeFrom_53 6 rfl ?_
  refine n_acopy (pc := 55) o (0) (0) (6) (rfl) (rfl) (rfl) rfl rfl (by omega) (by omega) (by decide) lk_X6_37 mn_acopy ms_acopy mi_acopy (by decide) (Nat.le_of_ble_eq_true rfl) dX6_takeFrom_55 ?_
  exact g_vret o ρ dX6_takeFrom_58 ⟨rfl, rfl⟩
theorem x0_z_15_1 (h : Mem) : (mcp (mcp (x6M 15 1 (x7M 15 1 (x5M 15 1 (x2M 15 1 h)))) (1 + 12) (15 + 12) 0 0 6) (1 + 13) (15 + 13) 0 0 10).1 1 6 = h.1 1 6 := rfl
set_option maxRecDepth 100000 in
set_option maxHeartbeats 400000 in
theorem c_tk0_15_1 (h : Mem) : Ct yX0_takeFrom cX0_takeFrom 2 none 2 81 [.ref 15, .ref 1] h (Ev (x0M 15 1 h)) := by
  refine Ct.of (by decide) (Nat.le_of_ble_eq_true rfl) (fun Γ o ρ => ?_)
  show ca_G Γ 2 _ _ [_, _] _
  refine g_aload_n (pc := 0) o dX0_takeFrom_0 rfl ?_
  refine g_getR (pc := 1) o 0 rfl rfl rfl inX0 (by decide) lf_X0_12 dX0_takeFrom_1 ?_
  refine g_aload_n (pc := 4) o dX0_takeFrom_4 rfl ?_
  refine g_getR (pc := 5) o 0 rfl rfl rfl inX0 (by decide) lf_X0_12 dX0_takeFrom_5 ?_
  refine g_callVv (pc := 8) o (c_tk2_15_1 h) mt_X2_takeFrom mv_X2_takeFrom lk_X0_59 rfl rfl rfl (by decide) rfl (Nat.le_of_ble_eq_true rfl) dX0_takeFrom_8 ?_
  refine g_aload_n (pc := 11) o dX0_takeFrom_11 rfl ?_
  refine g_getR (pc := 12) o 1 rfl rfl rfl inX0 (by decide) lf_X0_21 dX0_takeFrom_12 ?_
  refine g_aload_n (pc := 15) o dX0_takeFrom_15 rfl ?_
  refine g_getR (pc := 16) o 1 rfl rfl rfl inX0 (by decide) lf_X0_21 dX0_takeFrom_16 ?_
  refine g_callVv (pc := 19) o (c_tk5_15_1 (x2M 15 1 h)) mt_X5_takeFrom mv_X5_takeFrom lk_X0_63 rfl rfl rfl (by decide) rfl (Nat.le_of_ble_eq_true rfl) dX0_takeFrom_19 ?_
  refine g_aload_n (pc := 22) o dX0_takeFrom_22 rfl ?_
  refine g_getR (pc := 23) o 2 rfl rfl rfl inX0 (by decide) lf_X0_28 dX0_takeFrom_23 ?_
  refine g_aload_n (pc := 26) o dX0_takeFrom_26 rfl ?_
  refine g_getR (pc := 27) o 2 rfl rfl rfl inX0 (by decide) lf_X0_28 dX0_takeFrom_27 ?_
  refine g_callVv (pc := 30) o (c_tk7_15_1 (x5M 15 1 (x2M 15 1 h))) mt_X7_takeFrom mv_X7_takeFrom lk_X0_66 rfl rfl rfl (by decide) rfl (Nat.le_of_ble_eq_true rfl) dX0_takeFrom_30 ?_
  refine g_aload_n (pc := 33) o dX0_takeFrom_33 rfl ?_
  refine g_getR (pc := 34) o 3 rfl rfl rfl inX0 (by decide) lf_X0_35 dX0_takeFrom_34 ?_
  refine g_aload_n (pc := 37) o dX0_takeFrom_37 rfl ?_
  refine g_getR (pc := 38) o 3 rfl rfl rfl inX0 (by decide) lf_X0_35 dX0_takeFrom_38 ?_
  refine g_callVv (pc := 41) o (c_tk6_15_1 (x7M 15 1 (x5M 15 1 (x2M 15 1 h)))) mt_X6_takeFrom mv_X6_takeFrom lk_X0_69 rfl rfl rfl (by decide) rfl (Nat.le_of_ble_eq_true rfl) dX0_takeFrom_41 ?_
  refine g_aload_n (pc := 44) o dX0_takeFrom_44 rfl ?_
  refine g_getR (pc := 45) o 4 rfl rfl rfl inX0 (by decide) lf_X0_39 dX0_takeFrom_45 ?_
  refine g_iconst (pc := 48) o dX0_takeFrom_48 0 rfl ?_
  refine g_aload_n (pc := 49) o dX0_takeFrom_49 rfl ?_
  refine g_getR (pc := 50) o 4 rfl rfl rfl inX0 (by decide) lf_X0_39 dX0_takeFrom_50 ?_
  refine g_iconst (pc := 53) o dX0_takeFrom_53 0 rfl ?_
  refine g_bipush (pc := 54) o dX0_takeFrom_54 6 rfl ?_
  refine n_acopy (pc := 56) o (0) (0) (6) (rfl) (rfl) (rfl) rfl rfl (by omega) (by omega) (by decide) lk_X0_72 mn_acopy ms_acopy mi_acopy (by decide) (Nat.le_of_ble_eq_true rfl) dX0_takeFrom_56 ?_
  refine g_aload_n (pc := 59) o dX0_takeFrom_59 rfl ?_
  refine g_getR (pc := 60) o 5 rfl rfl rfl inX0 (by decide) lf_X0_43 dX0_takeFrom_60 ?_
  refine g_iconst (pc := 63) o dX0_takeFrom_63 0 rfl ?_
  refine g_aload_n (pc := 64) o dX0_takeFrom_64 rfl ?_
  refine g_getR (pc := 65) o 5 rfl rfl rfl inX0 (by decide) lf_X0_43 dX0_takeFrom_65 ?_
  refine g_iconst (pc := 68) o dX0_takeFrom_68 0 rfl ?_
  refine g_bipush (pc := 69) o dX0_takeFrom_69 10 rfl ?_
  refine n_acopy (pc := 71) o (0) (0) (10) (rfl) (rfl) (rfl) rfl rfl (by omega) (by omega) (by decide) lk_X0_72 mn_acopy ms_acopy mi_acopy (by decide) (Nat.le_of_ble_eq_true rfl) dX0_takeFrom_71 ?_
  refine g_aload_n (pc := 74) o dX0_takeFrom_74 rfl ?_
  refine g_aload_n (pc := 75) o dX0_takeFrom_75 rfl ?_
  refine g_getIE (pc := 76) o 6 rfl rfl rfl inX0 (by decide) lf_X0_46 (x0_z_15_1 h) dX0_takeFrom_76 ?_
  refine g_put (pc := 79) o 6 rfl rfl rfl inX0 tyX0_ok nmX0 (by decide) lf_X0_46 rfl rfl rfl dX0_takeFrom_79 ?_
  exact g_vret o ρ dX0_takeFrom_82 ⟨rfl, rfl⟩
theorem BR_x0_15_1 {h : Mem} {S : Nat → Int32} (B : BR h 1 S) : BR (x0M 15 1 h) 15 S := BF.cpy B rfl rfl rfl
theorem x0_off_15_1 {h : Mem} {k : Nat} (hk : inB 15 k = false) : (x0M 15 1 h).1 k = h.1 k := by
  simp only [inB, Bool.or_eq_false_iff, beq_eq_false_iff_ne, ne_eq] at hk
  unfold x0M x6M x7M x5M x2M
  rw [mw_ne _ _ _ (by omega), mcp_ne _ _ _ _ (by omega), mcp_ne _ _ _ _ (by omega), mcp_ne _ _ _ _ (by omega), mcp_ne _ _ _ _ (by omega), mcp_ne _ _ _ _ (by omega), mcp_ne _ _ _ _ (by omega), mw_ne _ _ _ (by omega), mcp_ne _ _ _ _ (by omega), mw_ne _ _ _ (by omega), mcp_ne _ _ _ _ (by omega), mcp_ne _ _ _ _ (by omega)]
set_option maxRecDepth 100000 in
set_option maxHeartbeats 400000 in
theorem c_tk2_1_15 (h : Mem) : Ct yX2_takeFrom cX2_takeFrom 2 none 1 60 [.ref 2, .ref 16] h (Ev (x2M 1 15 h)) := by
  refine Ct.of (by decide) (Nat.le_of_ble_eq_true rfl) (fun Γ o ρ => ?_)
  show ca_G Γ 2 _ _ [_, _] _
  refine g_aload_n (pc := 0) o dX2_takeFrom_0 rfl ?_
  refine g_getR (pc := 1) o 0 rfl rfl rfl inX2 (by decide) lf_X2_9 dX2_takeFrom_1 ?_
  refine g_iconst (pc := 4) o dX2_takeFrom_4 0 rfl ?_
  refine g_aload_n (pc := 5) o dX2_takeFrom_5 rfl ?_
  refine g_getR (pc := 6) o 0 rfl rfl rfl inX2 (by decide) lf_X2_9 dX2_takeFrom_6 ?_
  refine g_iconst (pc := 9) o dX2_takeFrom_9 0 rfl ?_
  refine g_bipush (pc := 10) o dX2_takeFrom_10 8 rfl ?_
  refine n_acopy (pc := 12) o (0) (0) (8) (rfl) (rfl) (rfl) rfl rfl (by omega) (by omega) (by decide) lk_X2_28 mn_acopy ms_acopy mi_acopy (by decide) (Nat.le_of_ble_eq_true rfl) dX2_takeFrom_12 ?_
  exact g_vret o ρ dX2_takeFrom_15 ⟨rfl, rfl⟩
set_option maxRecDepth 100000 in
set_option maxHeartbeats 400000 in
theorem c_tk5_1_15 (h : Mem) : Ct yX5_takeFrom cX5_takeFrom 2 none 1 60 [.ref 4, .ref 18] h (Ev (x5M 1 15 h)) := by
  refine Ct.of (by decide) (Nat.le_of_ble_eq_true rfl) (fun Γ o ρ => ?_)
  show ca_G Γ 2 _ _ [_, _] _
  refine g_aload_n (pc := 0) o dX5_takeFrom_0 rfl ?_
  refine g_getR (pc := 1) o 0 rfl rfl rfl inX5 (by decide) lf_X5_11 dX5_takeFrom_1 ?_
  refine g_iconst (pc := 4) o dX5_takeFrom_4 0 rfl ?_
  refine g_aload_n (pc := 5) o dX5_takeFrom_5 rfl ?_
  refine g_getR (pc := 6) o 0 rfl rfl rfl inX5 (by decide) lf_X5_11 dX5_takeFrom_6 ?_
  refine g_iconst (pc := 9) o dX5_takeFrom_9 0 rfl ?_
  refine g_sipush (pc := 10) o dX5_takeFrom_10 240 rfl ?_
  refine n_acopy (pc := 13) o (0) (0) (240) (rfl) (rfl) (rfl) rfl rfl (by omega) (by omega) (by decide) lk_X5_31 mn_acopy ms_acopy mi_acopy (by decide) (Nat.le_of_ble_eq_true rfl) dX5_takeFrom_13 ?_
  refine g_aload_n (pc := 16) o dX5_takeFrom_16 rfl ?_
  refine g_aload_n (pc := 17) o dX5_takeFrom_17 rfl ?_
  refine g_getIE (pc := 18) o 1 rfl rfl rfl inX5 (by decide) lf_X5_15 (rfl) dX5_takeFrom_18 ?_
  refine g_put (pc := 21) o 1 rfl rfl rfl inX5 tyX5_ok nmX5 (by decide) lf_X5_15 rfl rfl rfl dX5_takeFrom_21 ?_
  exact g_vret o ρ dX5_takeFrom_24 ⟨rfl, rfl⟩
set_option maxRecDepth 100000 in
set_option maxHeartbeats 400000 in
theorem c_tk7_1_15 (h : Mem) : Ct yX7_takeFrom cX7_takeFrom 2 none 1 60 [.ref 6, .ref 20] h (Ev (x7M 1 15 h)) := by
  refine Ct.of (by decide) (Nat.le_of_ble_eq_true rfl) (fun Γ o ρ => ?_)
  show ca_G Γ 2 _ _ [_, _] _
  refine g_aload_n (pc := 0) o dX7_takeFrom_0 rfl ?_
  refine g_getR (pc := 1) o 0 rfl rfl rfl inX7 (by decide) lf_X7_11 dX7_takeFrom_1 ?_
  refine g_iconst (pc := 4) o dX7_takeFrom_4 0 rfl ?_
  refine g_aload_n (pc := 5) o dX7_takeFrom_5 rfl ?_
  refine g_getR (pc := 6) o 0 rfl rfl rfl inX7 (by decide) lf_X7_11 dX7_takeFrom_6 ?_
  refine g_iconst (pc := 9) o dX7_takeFrom_9 0 rfl ?_
  refine g_bipush (pc := 10) o dX7_takeFrom_10 84 rfl ?_
  refine n_acopy (pc := 12) o (0) (0) (84) (rfl) (rfl) (rfl) rfl rfl (by omega) (by omega) (by decide) lk_X7_44 mn_acopy ms_acopy mi_acopy (by decide) (Nat.le_of_ble_eq_true rfl) dX7_takeFrom_12 ?_
  refine g_aload_n (pc := 15) o dX7_takeFrom_15 rfl ?_
  refine g_aload_n (pc := 16) o dX7_takeFrom_16 rfl ?_
  refine g_getIE (pc := 17) o 1 rfl rfl rfl inX7 (by decide) lf_X7_15 (rfl) dX7_takeFrom_17 ?_
  refine g_put (pc := 20) o 1 rfl rfl rfl inX7 tyX7_ok nmX7 (by decide) lf_X7_15 rfl rfl rfl dX7_takeFrom_20 ?_
  exact g_vret o ρ dX7_takeFrom_23 ⟨rfl, rfl⟩
set_option maxRecDepth 100000 in
set_option maxHeartbeats 400000 in
theorem c_tk6_1_15 (h : Mem) : Ct yX6_takeFrom cX6_takeFrom 2 none 1 60 [.ref 8, .ref 22] h (Ev (x6M 1 15 h)) := by
  refine Ct.of (by decide) (Nat.le_of_ble_eq_true rfl) (fun Γ o ρ => ?_)
  show ca_G Γ 2 _ _ [_, _] _
  refine g_aload_n (pc := 0) o dX6_takeFrom_0 rfl ?_
  refine g_getR (pc := 1) o 0 rfl rfl rfl inX6 (by decide) lf_X6_9 dX6_takeFrom_1 ?_
  refine g_iconst (pc := 4) o dX6_takeFrom_4 0 rfl ?_
  refine g_aload_n (pc := 5) o dX6_takeFrom_5 rfl ?_
  refine g_getR (pc := 6) o 0 rfl rfl rfl inX6 (by decide) lf_X6_9 dX6_takeFrom_6 ?_
  refine g_iconst (pc := 9) o dX6_takeFrom_9 0 rfl ?_
  refine g_iconst (pc := 10) o dX6_takeFrom_10 5 rfl ?_
  refine n_acopy (pc := 11) o (0) (0) (5) (rfl) (rfl) (rfl) rfl rfl (by omega) (by omega) (by decide) lk_X6_37 mn_acopy ms_acopy mi_acopy (by decide) (Nat.le_of_ble_eq_true rfl) dX6_takeFrom_11 ?_
  refine g_aload_n (pc := 14) o dX6_takeFrom_14 rfl ?_
  refine g_getR (pc := 15) o 1 rfl rfl rfl inX6 (by decide) lf_X6_15 dX6_takeFrom_15 ?_
  refine g_iconst (pc := 18) o dX6_takeFrom_18 0 rfl ?_
  refine g_aload_n (pc := 19) o dX6_takeFrom_19 rfl ?_
  refine g_getR (pc := 20) o 1 rfl rfl rfl inX6 (by decide) lf_X6_15 dX6_takeFrom_20 ?_
  refine g_iconst (pc := 23) o dX6_takeFrom_23 0 rfl ?_
  refine g_iconst (pc := 24) o dX6_takeFrom_24 5 rfl ?_
  refine n_acopy (pc := 25) o (0) (0) (5) (rfl) (rfl) (rfl) rfl rfl (by omega) (by omega) (by decide) lk_X6_37 mn_acopy ms_acopy mi_acopy (by decide) (Nat.le_of_ble_eq_true rfl) dX6_takeFrom_25 ?_
  refine g_aload_n (pc := 28) o dX6_takeFrom_28 rfl ?_
  refine g_getR (pc := 29) o 2 rfl rfl rfl inX6 (by decide) lf_X6_18 dX6_takeFrom_29 ?_
  refine g_iconst (pc := 32) o dX6_takeFrom_32 0 rfl ?_
  refine g_aload_n (pc := 33) o dX6_takeFrom_33 rfl ?_
  refine g_getR (pc := 34) o 2 rfl rfl rfl inX6 (by decide) lf_X6_18 dX6_takeFrom_34 ?_
  refine g_iconst (pc := 37) o dX6_takeFrom_37 0 rfl ?_
  refine g_bipush (pc := 38) o dX6_takeFrom_38 30 rfl ?_
  refine n_acopy (pc := 40) o (0) (0) (30) (rfl) (rfl) (rfl) rfl rfl (by omega) (by omega) (by decide) lk_X6_37 mn_acopy ms_acopy mi_acopy (by decide) (Nat.le_of_ble_eq_true rfl) dX6_takeFrom_40 ?_
  refine g_aload_n (pc := 43) o dX6_takeFrom_43 rfl ?_
  refine g_getR (pc := 44) o 3 rfl rfl rfl inX6 (by decide) lf_X6_21 dX6_takeFrom_44 ?_
  refine g_iconst (pc := 47) o dX6_takeFrom_47 0 rfl ?_
  refine g_aload_n (pc := 48) o dX6_takeFrom_48 rfl ?_
  refine g_getR (pc := 49) o 3 rfl rfl rfl inX6 (by decide) lf_X6_21 dX6_takeFrom_49 ?_
  refine g_iconst (pc := 52) o dX6_takeFrom_52 0 rfl ?_
  refine g_bipush (pc := 53) o dX6_takeFrom_53 6 rfl ?_
  refine n_acopy (pc := 55) o (0) (0) (6) (rfl) (rfl) (rfl) rfl rfl (by omega) (by omega) (by decide) lk_X6_37 mn_acopy ms_acopy mi_acopy (by decide) (Nat.le_of_ble_eq_true rfl) dX6_takeFrom_55 ?_
  exact g_vret o ρ dX6_takeFrom_58 ⟨rfl, rfl⟩
theorem x0_z_1_15 (h : Mem) : (mcp (mcp (x6M 1 15 (x7M 1 15 (x5M 1 15 (x2M 1 15 h)))) (15 + 12) (1 + 12) 0 0 6) (15 + 13) (1 + 13) 0 0 10).1 15 6 = h.1 15 6 := rfl
set_option maxRecDepth 100000 in
set_option maxHeartbeats 400000 in
theorem c_tk0_1_15 (h : Mem) : Ct yX0_takeFrom cX0_takeFrom 2 none 2 81 [.ref 1, .ref 15] h (Ev (x0M 1 15 h)) := by
  refine Ct.of (by decide) (Nat.le_of_ble_eq_true rfl) (fun Γ o ρ => ?_)
  show ca_G Γ 2 _ _ [_, _] _
  refine g_aload_n (pc := 0) o dX0_takeFrom_0 rfl ?_
  refine g_getR (pc := 1) o 0 rfl rfl rfl inX0 (by decide) lf_X0_12 dX0_takeFrom_1 ?_
  refine g_aload_n (pc := 4) o dX0_takeFrom_4 rfl ?_
  refine g_getR (pc := 5) o 0 rfl rfl rfl inX0 (by decide) lf_X0_12 dX0_takeFrom_5 ?_
  refine g_callVv (pc := 8) o (c_tk2_1_15 h) mt_X2_takeFrom mv_X2_takeFrom lk_X0_59 rfl rfl rfl (by decide) rfl (Nat.le_of_ble_eq_true rfl) dX0_takeFrom_8 ?_
  refine g_aload_n (pc := 11) o dX0_takeFrom_11 rfl ?_
  refine g_getR (pc := 12) o 1 rfl rfl rfl inX0 (by decide) lf_X0_21 dX0_takeFrom_12 ?_
  refine g_aload_n (pc := 15) o dX0_takeFrom_15 rfl ?_
  refine g_getR (pc := 16) o 1 rfl rfl rfl inX0 (by decide) lf_X0_21 dX0_takeFrom_16 ?_
  refine g_callVv (pc := 19) o (c_tk5_1_15 (x2M 1 15 h)) mt_X5_takeFrom mv_X5_takeFrom lk_X0_63 rfl rfl rfl (by decide) rfl (Nat.le_of_ble_eq_true rfl) dX0_takeFrom_19 ?_
  refine g_aload_n (pc := 22) o dX0_takeFrom_22 rfl ?_
  refine g_getR (pc := 23) o 2 rfl rfl rfl inX0 (by decide) lf_X0_28 dX0_takeFrom_23 ?_
  refine g_aload_n (pc := 26) o dX0_takeFrom_26 rfl ?_
  refine g_getR (pc := 27) o 2 rfl rfl rfl inX0 (by decide) lf_X0_28 dX0_takeFrom_27 ?_
  refine g_callVv (pc := 30) o (c_tk7_1_15 (x5M 1 15 (x2M 1 15 h))) mt_X7_takeFrom mv_X7_takeFrom lk_X0_66 rfl rfl rfl (by decide) rfl (Nat.le_of_ble_eq_true rfl) dX0_takeFrom_30 ?_
  refine g_aload_n (pc := 33) o dX0_takeFrom_33 rfl ?_
  refine g_getR (pc := 34) o 3 rfl rfl rfl inX0 (by decide) lf_X0_35 dX0_takeFrom_34 ?_
  refine g_aload_n (pc := 37) o dX0_takeFrom_37 rfl ?_
  refine g_getR (pc := 38) o 3 rfl rfl rfl inX0 (by decide) lf_X0_35 dX0_takeFrom_38 ?_
  refine g_callVv (pc := 41) o (c_tk6_1_15 (x7M 1 15 (x5M 1 15 (x2M 1 15 h)))) mt_X6_takeFrom mv_X6_takeFrom lk_X0_69 rfl rfl rfl (by decide) rfl (Nat.le_of_ble_eq_true rfl) dX0_takeFrom_41 ?_
  refine g_aload_n (pc := 44) o dX0_takeFrom_44 rfl ?_
  refine g_getR (pc := 45) o 4 rfl rfl rfl inX0 (by decide) lf_X0_39 dX0_takeFrom_45 ?_
  refine g_iconst (pc := 48) o dX0_takeFrom_48 0 rfl ?_
  refine g_aload_n (pc := 49) o dX0_takeFrom_49 rfl ?_
  refine g_getR (pc := 50) o 4 rfl rfl rfl inX0 (by decide) lf_X0_39 dX0_takeFrom_50 ?_
  refine g_iconst (pc := 53) o dX0_takeFrom_53 0 rfl ?_
  refine g_bipush (pc := 54) o dX0_takeFrom_54 6 rfl ?_
  refine n_acopy (pc := 56) o (0) (0) (6) (rfl) (rfl) (rfl) rfl rfl (by omega) (by omega) (by decide) lk_X0_72 mn_acopy ms_acopy mi_acopy (by decide) (Nat.le_of_ble_eq_true rfl) dX0_takeFrom_56 ?_
  refine g_aload_n (pc := 59) o dX0_takeFrom_59 rfl ?_
  refine g_getR (pc := 60) o 5 rfl rfl rfl inX0 (by decide) lf_X0_43 dX0_takeFrom_60 ?_
  refine g_iconst (pc := 63) o dX0_takeFrom_63 0 rfl ?_
  refine g_aload_n (pc := 64) o dX0_takeFrom_64 rfl ?_
  refine g_getR (pc := 65) o 5 rfl rfl rfl inX0 (by decide) lf_X0_43 dX0_takeFrom_65 ?_
  refine g_iconst (pc := 68) o dX0_takeFrom_68 0 rfl ?_
  refine g_bipush (pc := 69) o dX0_takeFrom_69 10 rfl ?_
  refine n_acopy (pc := 71) o (0) (0) (10) (rfl) (rfl) (rfl) rfl rfl (by omega) (by omega) (by decide) lk_X0_72 mn_acopy ms_acopy mi_acopy (by decide) (Nat.le_of_ble_eq_true rfl) dX0_takeFrom_71 ?_
  refine g_aload_n (pc := 74) o dX0_takeFrom_74 rfl ?_
  refine g_aload_n (pc := 75) o dX0_takeFrom_75 rfl ?_
  refine g_getIE (pc := 76) o 6 rfl rfl rfl inX0 (by decide) lf_X0_46 (x0_z_1_15 h) dX0_takeFrom_76 ?_
  refine g_put (pc := 79) o 6 rfl rfl rfl inX0 tyX0_ok nmX0 (by decide) lf_X0_46 rfl rfl rfl dX0_takeFrom_79 ?_
  exact g_vret o ρ dX0_takeFrom_82 ⟨rfl, rfl⟩
theorem BR_x0_1_15 {h : Mem} {S : Nat → Int32} (B : BR h 15 S) : BR (x0M 1 15 h) 1 S := BF.cpy B rfl rfl rfl
theorem x0_off_1_15 {h : Mem} {k : Nat} (hk : inB 1 k = false) : (x0M 1 15 h).1 k = h.1 k := by
  simp only [inB, Bool.or_eq_false_iff, beq_eq_false_iff_ne, ne_eq] at hk
  unfold x0M x6M x7M x5M x2M
  rw [mw_ne _ _ _ (by omega), mcp_ne _ _ _ _ (by omega), mcp_ne _ _ _ _ (by omega), mcp_ne _ _ _ _ (by omega), mcp_ne _ _ _ _ (by omega), mcp_ne _ _ _ _ (by omega), mcp_ne _ _ _ _ (by omega), mw_ne _ _ _ (by omega), mcp_ne _ _ _ _ (by omega), mw_ne _ _ _ (by omega), mcp_ne _ _ _ _ (by omega), mcp_ne _ _ _ _ (by omega)]
def cpF (f g : Nat → Int32) : Nat → Int32 := fun i => if i < 337 then f i else g i
theorem cpF_lt (f g : Nat → Int32) (i : Nat) (h : i < 337) : cpF f g i = f i := if_pos h
def op_image (σ : Sg) : Int32 × Sg := (1, su (sf σ 2 (cpF (σ 0) (σ 2))) 8 0 1)
def op_undo (σ : Sg) : Int32 × Sg := if ¬ σ 8 0 = 0 then (σ 2 189, sf σ 0 (cpF (σ 2) (σ 0))) else fnd σ 3
def op_tear (σ : Sg) : Int32 × Sg := (bI (¬ σ 8 0 = 0), su σ 8 0 0)
set_option maxRecDepth 100000 in
set_option maxHeartbeats 400000 in
theorem co_image {h : Mem} {σ : Sg} (C : CR h σ) : Ct yX9_image cX9_image 1 (some .int) 3 102 [.ref 0] h (Po h (op_image σ)) := by
  refine Ct.of (by decide) (Nat.le_of_ble_eq_true rfl) (fun Γ o ρ => ?_)
  show ca_G Γ 1 _ _ [_] _
  refine g_aload_n (pc := 0) o dX9_image_0 rfl ?_
  refine g_getR (pc := 1) o 1 rfl rfl rfl inX9 (by decide) lf_X9_16 dX9_image_1 ?_
  refine g_aload_n (pc := 4) o dX9_image_4 rfl ?_
  refine g_getR (pc := 5) o 0 rfl rfl rfl inX9 (by decide) lf_X9_10 dX9_image_5 ?_
  refine g_callVv (pc := 8) o (c_tk0_15_1 h) mt_X0_takeFrom mv_X0_takeFrom lk_X9_340 rfl rfl rfl (by decide) rfl (Nat.le_of_ble_eq_true rfl) dX9_image_8 ?_
  refine g_aload_n (pc := 11) o dX9_image_11 rfl ?_
  refine g_iconst (pc := 12) o dX9_image_12 1 rfl ?_
  refine g_put (pc := 13) o 2 rfl rfl rfl inX9 tyX9_ok nmX9 (by decide) lf_X9_344 rfl rfl rfl dX9_image_13 ?_
  refine g_iconst (pc := 16) o dX9_image_16 1 rfl ?_
  have off : ∀ k, inB 15 k = false → k ≠ 0 → (mw (x0M 15 1 h) 0 2 1).1 k = h.1 k := fun k h1 h2 => (mw_ne _ _ _ h2).trans (x0_off_15_1 h1)
  refine g_iret o ρ dX9_image_17 (Po.mk rfl ?_ (fun k hk => off k (by simp only [inB, Bool.or_eq_false_iff, beq_eq_false_iff_ne, ne_eq]; omega) (by omega)))
  obtain ⟨a1, a2, a3, a4, a5, a6, a7, a8, a9, a10, a11⟩ := C
  refine ⟨?_, ?_, rfl, fun _ => ?_, ?_, ?_, ?_, ?_, ?_, ?_, ?_⟩
  · refine BR.of a1 (fun k hk => off k ?_ ?_)
    · simp only [inB, Bool.or_eq_true, beq_iff_eq] at hk
      simp only [inB, Bool.or_eq_false_iff, beq_eq_false_iff_ne, ne_eq]
      omega
    · simp only [inB, Bool.or_eq_true, beq_iff_eq] at hk
      omega
  · rw [off 29 (by decide) (by decide)]; exact a2
  · refine BF.cg (BR.of (BR_x0_15_1 a1) (fun k hk => mw_ne _ _ _ ?_)) (cpF_lt _ _)
    simp only [inB, Bool.or_eq_true, beq_iff_eq] at hk
    omega
  · show upd ((x0M 15 1 h).1 0) 2 1 9 = σ 8 1
    rw [pk_un (by decide), x0_off_15_1 (by decide)]; exact a5
  · rw [off 50 (by decide) (by decide)]; exact a6
  · rw [off 30 (by decide) (by decide)]; exact a7
  · rw [off 31 (by decide) (by decide)]; exact a8
  · rw [off 35 (by decide) (by decide)]; exact a9
  · rw [off 36 (by decide) (by decide)]; exact a10
  · rw [off 37 (by decide) (by decide)]; exact a11
set_option maxRecDepth 100000 in
set_option maxHeartbeats 400000 in
theorem co_undo {h : Mem} {σ : Sg} (C : CR h σ) (I : Iv σ) : Ct yX9_undo cX9_undo 1 (some .int) 3 102 [.ref 0] h (Po h (op_undo σ)) := by
  refine Ct.of (by decide) (Nat.le_of_ble_eq_true rfl) (fun Γ o ρ => ?_)
  show ca_G Γ 1 _ _ [_] _
  refine g_aload_n (pc := 0) o dX9_undo_0 rfl ?_
  refine g_getIE (pc := 1) o 2 rfl rfl rfl inX9 (by decide) lf_X9_344 (C.2.2.1) dX9_undo_1 ?_
  refine g_if_ne (pc := 4) o 13 dX9_undo_4 (by decide) (fun c4 => ?_) (fun c4 => ?_)
  · skip
    have k1 : σ 8 0 = 1 := I.2.2.1.resolve_left c4
    have B : BR (x0M 1 15 h) 1 (σ 2) := BR_x0_1_15 (C.2.2.2.1 k1)
    have eq : op_undo σ = (σ 2 189, sf σ 0 (cpF (σ 2) (σ 0))) := if_pos c4
    rw [eq] at ρ
    refine g_aload_n (pc := 13) o dX9_undo_13 rfl ?_
    refine g_getR (pc := 14) o 0 rfl rfl rfl inX9 (by decide) lf_X9_10 dX9_undo_14 ?_
    refine g_aload_n (pc := 17) o dX9_undo_17 rfl ?_
    refine g_getR (pc := 18) o 1 rfl rfl rfl inX9 (by decide) lf_X9_16 dX9_undo_18 ?_
    refine g_callVv (pc := 21) o (c_tk0_1_15 h) mt_X0_takeFrom mv_X0_takeFrom lk_X9_340 rfl rfl rfl (by decide) rfl (Nat.le_of_ble_eq_true rfl) dX9_undo_21 ?_
    refine g_aload_n (pc := 24) o dX9_undo_24 rfl ?_
    refine g_getR (pc := 25) o 0 rfl rfl rfl inX9 (by decide) lf_X9_10 dX9_undo_25 ?_
    refine g_getR (pc := 28) o 2 rfl rfl rfl inX0 (by decide) lf_X9_137 dX9_undo_28 ?_
    refine g_callVi (pc := 31) o (c_tsize B) mt_X7_size mv_X7_size lk_X9_347 rfl rfl rfl (by decide) rfl (Nat.le_of_ble_eq_true rfl) dX9_undo_31 ?_
    exact g_iret o ρ dX9_undo_34 (Po_s C (BF.cg B (cpF_lt _ _)) (fun k hk => x0_off_1_15 hk))
  · skip
    refine g_aload_n (pc := 7) o dX9_undo_7 rfl ?_
    refine g_iconst (pc := 8) o dX9_undo_8 3 rfl ?_
    refine g_callVi (pc := 9) o (c_finding 3 (by decide) h) mt_X9_finding mv_X9_finding lk_X9_58 rfl rfl rfl (by decide) rfl (Nat.le_of_ble_eq_true rfl) dX9_undo_9 ?_
    exact g_iret o ρ dX9_undo_12 (Po.eq (if_neg (fun z => z c4)) (Po_fnd C (by decide)))
theorem bI_nn (x : Int32) : bI (¬ x = 0) = if x = 0 then 0 else 1 := by
  unfold bI
  by_cases h : x = 0
  · rw [if_pos h, if_neg (fun z => z h)]
  · rw [if_neg h, if_pos h]
theorem CR_80 {h : Mem} {σ : Sg} (C : CR h σ) : CR (mw h 0 2 0) (su σ 8 0 0) := by
  obtain ⟨a1, a2, a3, a4, a5, a6, a7, a8, a9, a10, a11⟩ := C
  exact ⟨a1, a2, rfl, fun z => absurd (show (0 : Int32) = 1 from z) (by decide), a5, a6, a7, a8, a9, a10, a11⟩
set_option maxRecDepth 100000 in
set_option maxHeartbeats 400000 in
theorem co_tear {h : Mem} {σ : Sg} (C : CR h σ) : Ct yX9_tear cX9_tear 2 (some .int) 0 0 [.ref 0] h (Po h (op_tear σ)) := by
  refine Ct.of (by decide) (Nat.le_of_ble_eq_true rfl) (fun Γ o ρ => ?_)
  show ca_G Γ 2 _ _ [_, _] _
  refine g_aload_n (pc := 0) o dX9_tear_0 rfl ?_
  refine g_getIE (pc := 1) o 2 rfl rfl rfl inX9 (by decide) lf_X9_344 (C.2.2.1) dX9_tear_1 ?_
  refine g_if_eq (pc := 4) o 11 dX9_tear_4 (by decide) (fun c4 => ?_) (fun c4 => ?_)
  · skip
    refine g_iconst (pc := 11) o dX9_tear_11 0 rfl ?_
    refine g_istore_n (pc := 12) o dX9_tear_12 (by decide) ?_
    show ca_G Γ 2 _ _ [_, _] _
    refine g_aload_n (pc := 13) o dX9_tear_13 rfl ?_
    refine g_iconst (pc := 14) o dX9_tear_14 0 rfl ?_
    refine g_put (pc := 15) o 2 rfl rfl rfl inX9 tyX9_ok nmX9 (by decide) lf_X9_344 rfl rfl rfl dX9_tear_15 ?_
    refine g_iload_n (pc := 18) o dX9_tear_18 rfl ?_
    exact g_iret o ρ dX9_tear_19 (Po.mk (bI_f (fun z => z c4)) (CR_80 C) ((kM.rf h).mw (by decide)))
  · skip
    refine g_iconst (pc := 7) o dX9_tear_7 1 rfl ?_
    refine g_goto (pc := 8) o 12 dX9_tear_8 (by decide) ?_
    refine g_istore_n (pc := 12) o dX9_tear_12 (by decide) ?_
    show ca_G Γ 2 _ _ [_, _] _
    refine g_aload_n (pc := 13) o dX9_tear_13 rfl ?_
    refine g_iconst (pc := 14) o dX9_tear_14 0 rfl ?_
    refine g_put (pc := 15) o 2 rfl rfl rfl inX9 tyX9_ok nmX9 (by decide) lf_X9_344 rfl rfl rfl dX9_tear_15 ?_
    refine g_iload_n (pc := 18) o dX9_tear_18 rfl ?_
    exact g_iret o ρ dX9_tear_19 (Po.mk (bI_t c4) (CR_80 C) ((kM.rf h).mw (by decide)))
set_option maxRecDepth 100000 in
set_option maxHeartbeats 400000 in
theorem mo_tear {h : Mem} : Ct yX10_tear cX10_tear 2 (some .int) 0 0 [.ref 51] h (Pm h (op_tear (absM h))) := by
  refine Ct.of (by decide) (Nat.le_of_ble_eq_true rfl) (fun Γ o ρ => ?_)
  show ca_G Γ 2 _ _ [_, _] _
  refine g_aload_n (pc := 0) o dX10_tear_0 rfl ?_
  refine g_getI (pc := 1) o 4 rfl rfl rfl inX10 (by decide) lf_X10_323 dX10_tear_1 ?_
  refine g_if_eq (pc := 4) o 11 dX10_tear_4 (by decide) (fun c4 => ?_) (fun c4 => ?_)
  · skip
    refine g_iconst (pc := 11) o dX10_tear_11 0 rfl ?_
    refine g_istore_n (pc := 12) o dX10_tear_12 (by decide) ?_
    show ca_G Γ 2 _ _ [_, _] _
    refine g_aload_n (pc := 13) o dX10_tear_13 rfl ?_
    refine g_iconst (pc := 14) o dX10_tear_14 0 rfl ?_
    refine g_put (pc := 15) o 4 rfl rfl rfl inX10 tyX10_ok nmX10 (by decide) lf_X10_323 rfl rfl rfl dX10_tear_15 ?_
    refine g_iload_n (pc := 18) o dX10_tear_18 rfl ?_
    exact g_iret o ρ dX10_tear_19 (Pm.mk (bI_f (fun z => z c4)) abs_51_4 ((kC.rf h).mw (by decide)))
  · skip
    refine g_iconst (pc := 7) o dX10_tear_7 1 rfl ?_
    refine g_goto (pc := 8) o 12 dX10_tear_8 (by decide) ?_
    refine g_istore_n (pc := 12) o dX10_tear_12 (by decide) ?_
    show ca_G Γ 2 _ _ [_, _] _
    refine g_aload_n (pc := 13) o dX10_tear_13 rfl ?_
    refine g_iconst (pc := 14) o dX10_tear_14 0 rfl ?_
    refine g_put (pc := 15) o 4 rfl rfl rfl inX10 tyX10_ok nmX10 (by decide) lf_X10_323 rfl rfl rfl dX10_tear_15 ?_
    refine g_iload_n (pc := 18) o dX10_tear_18 rfl ?_
    exact g_iret o ρ dX10_tear_19 (Pm.mk (bI_t c4) abs_51_4 ((kC.rf h).mw (by decide)))
theorem cpF_s {f g x : Nat → Int32} {i : Nat} (hi : i < 337) (e : ∀ j, x j = if j < i then f j else g j) : ∀ j, upd x i (f i) j = if j < i + 1 then f j else g j := by
  intro j
  unfold upd
  by_cases q : j = i
  · rw [if_pos q, if_pos (by omega), q]
  · rw [if_neg q, e j]
    by_cases r : j < i
    · rw [if_pos r, if_pos (by omega)]
    · rw [if_neg r, if_neg (by omega)]
set_option maxRecDepth 100000 in
theorem lp_image {Γ : Fr} (o : ca_O Γ cX10_image 2 RX10 0 0) {Pr : Option Value → Mem → Prop} (ρ : ca_R Γ (some .int) Pr) {h0 : Mem} (hp : ∀ h2 : Mem, (∀ j, h2.1 53 j = if j < 337 then h0.1 52 j else h0.1 53 j) → (∀ c, c ≠ 53 → h2.1 c = h0.1 c) → Pr (some (.int 1)) (mw h2 51 4 1)) : ∀ i, i ≤ 337 → ∀ (xi : Int32) (h : Mem), xi = nI i → (∀ j, h.1 53 j = if j < i then h0.1 52 j else h0.1 53 j) → (∀ c, c ≠ 53 → h.1 c = h0.1 c) → ca_G Γ 2 h 2 [some (.ref 51), some (.int xi)] [] := by
  refine downI 337 (fun i hi ih => ?_)
  rintro xi h rfl e1 e2
  refine g_iload_n (pc := 2) o dX10_image_2 rfl ?_
  refine g_sipush (pc := 3) o dX10_image_3 337 rfl ?_
  refine g_ic_ge (pc := 6) o 27 dX10_image_6 (by decide) (fun c6 => ?_) (fun c6 => ?_)
  · skip
    have e : i = 337 := ge8 (n := 337) (by omega) (by omega) c6
    subst e
    refine g_aload_n (pc := 27) o dX10_image_27 rfl ?_
    refine g_iconst (pc := 28) o dX10_image_28 1 rfl ?_
    refine g_put (pc := 29) o 4 rfl rfl rfl inX10 tyX10_ok nmX10 (by decide) lf_X10_323 rfl rfl rfl dX10_image_29 ?_
    refine g_iconst (pc := 32) o dX10_image_32 1 rfl ?_
    exact g_iret o ρ dX10_image_33 (hp h e1 e2)
  · skip
    have e : i < 337 := lt8 (n := 337) (by omega) (by omega) c6
    have rd : h.1 52 i = h0.1 52 i := by rw [e2 52 (by decide)]
    refine g_aload_n (pc := 9) o dX10_image_9 rfl ?_
    refine g_getR (pc := 10) o 1 rfl rfl rfl inX10 (by decide) lf_X10_13 dX10_image_10 ?_
    refine g_iload_n (pc := 13) o dX10_image_13 rfl ?_
    refine g_aload_n (pc := 14) o dX10_image_14 rfl ?_
    refine g_getR (pc := 15) o 0 rfl rfl rfl inX10 (by decide) lf_X10_7 dX10_image_15 ?_
    refine g_iload_n (pc := 18) o dX10_image_18 rfl ?_
    refine n_ialdE (pc := 19) o i (rfl) rfl ((by omega)) (by decide) (rd) dX10_image_19 ?_
    refine n_iast (pc := 20) o i (rfl) rfl ((by omega)) (by decide) dX10_image_20 ?_
    refine g_iinc (pc := 21) o dX10_image_21 rfl 1 rfl (by decide) ?_
    show ca_G Γ 2 _ _ [_, _] _
    refine g_goto (pc := 24) o 2 dX10_image_24 (by decide) ?_
    exact ih e _ _ (nI_1 i) (by rw [mw_same]; exact cpF_s e e1) (fun c hc => (mw_ne _ _ _ hc).trans (e2 c hc))
theorem abs_2 {h h2 : Mem} (e : ∀ c, c ≠ 53 → h2.1 c = h.1 c) : absM h2 = sf (absM h) 2 (h2.1 53) := by
  refine abs_f _ _ (e 52 (by decide)) (e 55 (by decide)) rfl (e 62 (by decide)) (e 66 (by decide)) (e 67 (by decide)) (e 68 (by decide)) (e 69 (by decide)) ?_ (fun k hk => ?_)
  · show (fun i => match i with | 0 => h2.1 51 4 | 1 => h2.1 51 15 | _ => h2.1 51 20) = (fun i => match i with | 0 => h.1 51 4 | 1 => h.1 51 15 | _ => h.1 51 20)
    rw [e 51 (by decide)]
  · obtain ⟨n, rfl⟩ := Nat.exists_eq_add_of_le hk
    rw [show 9 + n = n + 9 by omega]
    rfl
set_option maxRecDepth 100000 in
set_option maxHeartbeats 400000 in
theorem mo_image {h : Mem} : Ct yX10_image cX10_image 2 (some .int) 0 0 [.ref 51] h (Pm h (op_image (absM h))) := by
  refine Ct.of (by decide) (Nat.le_of_ble_eq_true rfl) (fun Γ o ρ => ?_)
  show ca_G Γ 2 _ _ [_, _] _
  refine g_iconst (pc := 0) o dX10_image_0 0 rfl ?_
  refine g_istore_n (pc := 1) o dX10_image_1 (by decide) ?_
  show ca_G Γ 2 _ _ [_, _] _
  refine lp_image o ρ (h0 := h) (fun h2 e1 e2 => ?_) 0 (by omega) 0 h rfl (fun j => by rw [if_neg (by omega)]) (fun _ _ => rfl)
  refine Pm.mk rfl ?_ (fun c hc => (mw_ne _ _ _ (by omega)).trans (e2 c (by omega)))
  rw [abs_51_4, abs_2 e2]
  have : h2.1 53 = cpF (h.1 52) (h.1 53) := funext e1
  rw [this]
  rfl
set_option maxRecDepth 100000 in
theorem lp_undo {Γ : Fr} (o : ca_O Γ cX10_undo 2 RX10 1 21) {Pr : Option Value → Mem → Prop} (ρ : ca_R Γ (some .int) Pr) {h0 : Mem} (hp : ∀ h2 : Mem, (∀ j, h2.1 52 j = if j < 337 then h0.1 53 j else h0.1 52 j) → (∀ c, c ≠ 52 → h2.1 c = h0.1 c) → Pr (some (.int (h2.1 52 189))) h2) : ∀ i, i ≤ 337 → ∀ (xi : Int32) (h : Mem), xi = nI i → (∀ j, h.1 52 j = if j < i then h0.1 53 j else h0.1 52 j) → (∀ c, c ≠ 52 → h.1 c = h0.1 c) → ca_G Γ 2 h 16 [some (.ref 51), some (.int xi)] [] := by
  refine downI 337 (fun i hi ih => ?_)
  rintro xi h rfl e1 e2
  refine g_iload_n (pc := 16) o dX10_undo_16 rfl ?_
  refine g_sipush (pc := 17) o dX10_undo_17 337 rfl ?_
  refine g_ic_ge (pc := 20) o 41 dX10_undo_20 (by decide) (fun c20 => ?_) (fun c20 => ?_)
  · skip
    have e : i = 337 := ge8 (n := 337) (by omega) (by omega) c20
    subst e
    refine g_aload_n (pc := 41) o dX10_undo_41 rfl ?_
    refine g_getR (pc := 42) o 0 rfl rfl rfl inX10 (by decide) lf_X10_7 dX10_undo_42 ?_
    refine g_sipush (pc := 45) o dX10_undo_45 189 rfl ?_
    refine n_iald (pc := 48) o 189 (rfl) rfl ((by omega)) (by decide) dX10_undo_48 ?_
    exact g_iret o ρ dX10_undo_49 (hp h e1 e2)
  · skip
    have e : i < 337 := lt8 (n := 337) (by omega) (by omega) c20
    have rd : h.1 53 i = h0.1 53 i := by rw [e2 53 (by decide)]
    refine g_aload_n (pc := 23) o dX10_undo_23 rfl ?_
    refine g_getR (pc := 24) o 0 rfl rfl rfl inX10 (by decide) lf_X10_7 dX10_undo_24 ?_
    refine g_iload_n (pc := 27) o dX10_undo_27 rfl ?_
    refine g_aload_n (pc := 28) o dX10_undo_28 rfl ?_
    refine g_getR (pc := 29) o 1 rfl rfl rfl inX10 (by decide) lf_X10_13 dX10_undo_29 ?_
    refine g_iload_n (pc := 32) o dX10_undo_32 rfl ?_
    refine n_ialdE (pc := 33) o i (rfl) rfl ((by omega)) (by decide) (rd) dX10_undo_33 ?_
    refine n_iast (pc := 34) o i (rfl) rfl ((by omega)) (by decide) dX10_undo_34 ?_
    refine g_iinc (pc := 35) o dX10_undo_35 rfl 1 rfl (by decide) ?_
    show ca_G Γ 2 _ _ [_, _] _
    refine g_goto (pc := 38) o 16 dX10_undo_38 (by decide) ?_
    exact ih e _ _ (nI_1 i) (by rw [mw_same]; exact cpF_s e e1) (fun c hc => (mw_ne _ _ _ hc).trans (e2 c hc))
set_option maxRecDepth 100000 in
set_option maxHeartbeats 400000 in
theorem mo_undo {h : Mem} : Ct yX10_undo cX10_undo 2 (some .int) 1 21 [.ref 51] h (Pm h (op_undo (absM h))) := by
  refine Ct.of (by decide) (Nat.le_of_ble_eq_true rfl) (fun Γ o ρ => ?_)
  show ca_G Γ 2 _ _ [_, _] _
  refine g_aload_n (pc := 0) o dX10_undo_0 rfl ?_
  refine g_getI (pc := 1) o 4 rfl rfl rfl inX10 (by decide) lf_X10_323 dX10_undo_1 ?_
  refine g_if_ne (pc := 4) o 14 dX10_undo_4 (by decide) (fun c4 => ?_) (fun c4 => ?_)
  · skip
    have eq : op_undo (absM h) = (h.1 53 189, sf (absM h) 0 (cpF (h.1 53) (h.1 52))) := if_pos c4
    rw [eq] at ρ
    refine g_iconst (pc := 14) o dX10_undo_14 0 rfl ?_
    refine g_istore_n (pc := 15) o dX10_undo_15 (by decide) ?_
    show ca_G Γ 2 _ _ [_, _] _
    refine lp_undo o ρ (h0 := h) (fun h2 e1 e2 => ?_) 0 (by omega) 0 h rfl (fun j => by rw [if_neg (by omega)]) (fun _ _ => rfl)
    have e3 : h2.1 52 = cpF (h.1 53) (h.1 52) := funext e1
    refine Pm.mk ?_ ?_ (fun c hc => e2 c (by omega))
    · rw [e3]; rfl
    · rw [abs_s (fun k hk => e2 k (fun z => by subst z; revert hk; decide)), e3]

  · skip
    refine g_aload_n (pc := 7) o dX10_undo_7 rfl ?_
    refine g_ldc (pc := 8) o dX10_undo_8 lc_X10_97 ?_
    refine g_callVi (pc := 10) o (m_finds 3 (by decide) h) mt_X10_finds mv_X10_finds lk_X10_86 rfl rfl rfl (by decide) rfl (Nat.le_of_ble_eq_true rfl) dX10_undo_10 ?_
    exact g_iret o ρ dX10_undo_13 (Pm.eq (if_neg (fun z => z c4)) (Pm_fnd rfl (kC.rf h) (by decide)))
