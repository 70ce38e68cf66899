/-! ===== constant texts: length, charAt ===== -/
abbrev lnF (i : Nat) : Nat := ca_slen.getD i 0
abbrev chF (i j : Nat) : Int32 := (ca_sbyt.getD i []).getD j 0
theorem ln_7 : ∀ i, i < 12 → lnF i ≤ 7 ∧ 2 ≤ lnF i := by decide +kernel
theorem ln_shr : ∀ i, i < 12 → jshr (nI (lnF i)) 0 = nI (lnF i) := by decide +kernel
theorem ch_c : ∀ i, i < 12 → ∀ j, j < 7 → ((chF i j &&& 255).toUInt32 % 65536).toInt32 = chF i j := by decide +kernel
theorem ch_n : ∀ i, i < 12 → ∀ j, j < 7 → narrow .char (.int (chF i j)) = .int (chF i j) := by
  intro i hi j hj
  show Value.int _ = Value.int _
  congr 1
  exact (by decide +kernel : ∀ i, i < 12 → ∀ j, j < 7 → ((chF i j).toUInt32 % 65536).toInt32 = chF i j) i hi j hj
set_option maxRecDepth 100000 in
set_option maxHeartbeats 400000 in
theorem c_coder {h : Mem} {i : Nat} (hi : i < 12) : Ct yJ0_coder_7d493 cJ0_coder_7d493 1 (some .byte) 0 0 [.ref (1000 + i)] h (Ei 0 h) := by
  refine Ct.of (by decide) (Nat.le_of_ble_eq_true rfl) (fun Γ o ρ => ?_)
  show ca_G Γ 1 _ _ [_] _
  refine g_compact (pc := 0) o lf_J0_38 dJ0_coder_7d493_0 ?_
  refine g_if_eq (pc := 3) o 13 dJ0_coder_7d493_3 (by decide) (fun c3 => ?_) (fun c3 => ?_)
  · skip
    exact absurd c3 (by decide)
  · skip
    refine g_aload_n (pc := 6) o dJ0_coder_7d493_6 rfl ?_
    refine g_scod (pc := 7) o hi lf_J0_15 dJ0_coder_7d493_7 ?_
    refine g_goto (pc := 10) o 14 dJ0_coder_7d493_10 (by decide) ?_
    exact g_zret o ρ (by first | rfl | exact bI_b) dJ0_coder_7d493_14 (Ei.mk rfl rfl)
set_option maxRecDepth 100000 in
set_option maxHeartbeats 400000 in
theorem c_latin {h : Mem} {i : Nat} (hi : i < 12) : Ct yJ0_isLatin1_aae02 cJ0_isLatin1_aae02 1 (some .boolean) 0 0 [.ref (1000 + i)] h (Ei 1 h) := by
  refine Ct.of (by decide) (Nat.le_of_ble_eq_true rfl) (fun Γ o ρ => ?_)
  show ca_G Γ 1 _ _ [_] _
  refine g_compact (pc := 0) o lf_J0_38 dJ0_isLatin1_aae02_0 ?_
  refine g_if_eq (pc := 3) o 17 dJ0_isLatin1_aae02_3 (by decide) (fun c3 => ?_) (fun c3 => ?_)
  · skip
    exact absurd c3 (by decide)
  · skip
    refine g_aload_n (pc := 6) o dJ0_isLatin1_aae02_6 rfl ?_
    refine g_scod (pc := 7) o hi lf_J0_15 dJ0_isLatin1_aae02_7 ?_
    refine g_if_ne (pc := 10) o 17 dJ0_isLatin1_aae02_10 (by decide) (fun c10 => ?_) (fun c10 => ?_)
    · skip
      exact absurd rfl c10
    · skip
      refine g_iconst (pc := 13) o dJ0_isLatin1_aae02_13 1 rfl ?_
      refine g_goto (pc := 14) o 18 dJ0_isLatin1_aae02_14 (by decide) ?_
      exact g_zret o ρ (by first | rfl | exact bI_b) dJ0_isLatin1_aae02_18 (Ei.mk rfl rfl)
set_option maxRecDepth 100000 in
set_option maxHeartbeats 400000 in
theorem c_length {h : Mem} {i : Nat} (hi : i < 12) : Ct yJ0_length_8abf5 cJ0_length_8abf5 1 (some .int) 1 20 [.ref (1000 + i)] h (Ei (nI (lnF i)) h) := by
  refine Ct.of (by decide) (Nat.le_of_ble_eq_true rfl) (fun Γ o ρ => ?_)
  show ca_G Γ 1 _ _ [_] _
  refine g_aload_n (pc := 0) o dJ0_length_8abf5_0 rfl ?_
  refine g_sval (pc := 1) o hi lf_J0_9 dJ0_length_8abf5_1 ?_
  refine g_slen (pc := 4) o hi dJ0_length_8abf5_4 ?_
  refine g_aload_n (pc := 5) o dJ0_length_8abf5_5 rfl ?_
  refine g_callTi (pc := 6) o (c_coder hi) mt_J0_coder_7d493 mv_J0_coder_7d493 lk_J0_335 hi rfl rfl (by decide) rfl (Nat.le_of_ble_eq_true rfl) dJ0_length_8abf5_6 ?_
  refine g_ishr (pc := 9) o dJ0_length_8abf5_9 ?_
  rw [ln_shr i hi]
  exact g_iret o ρ dJ0_length_8abf5_10 (Ei.mk rfl rfl)
set_option maxRecDepth 100000 in
set_option maxHeartbeats 400000 in
theorem c_ck3n {h : Mem} (j n : Nat) (hj : j < n) (hn : n < 2 ^ 31) : Ct yJ3_checkIndex_8e157 cJ3_checkIndex_8e157 3 (some .int) 0 0 [.int (nI j), .int (nI n), .null] h (Ei (nI j) h) := by
  refine Ct.of (by decide) (Nat.le_of_ble_eq_true rfl) (fun Γ o ρ => ?_)
  show ca_G Γ 3 _ _ [_, _, _] _
  refine g_iload_n (pc := 0) o dJ3_checkIndex_8e157_0 rfl ?_
  refine g_if_lt (pc := 1) o 9 dJ3_checkIndex_8e157_1 (by decide) (fun c1 => ?_) (fun c1 => ?_)
  · skip
    exact absurd c1 (nI_pos (by omega))
  · skip
    refine g_iload_n (pc := 4) o dJ3_checkIndex_8e157_4 rfl ?_
    refine g_iload_n (pc := 5) o dJ3_checkIndex_8e157_5 rfl ?_
    refine g_ic_lt (pc := 6) o 16 dJ3_checkIndex_8e157_6 (by decide) (fun c6 => ?_) (fun c6 => ?_)
    · skip
      refine g_iload_n (pc := 16) o dJ3_checkIndex_8e157_16 rfl ?_
      exact g_iret o ρ dJ3_checkIndex_8e157_17 (Ei.mk rfl rfl)
    · skip
      exact absurd ((nI_ltI (by omega) hn).mpr hj) c6
set_option maxRecDepth 100000 in
set_option maxHeartbeats 400000 in
theorem c_ck3r {h : Mem} (j n : Nat) (hj : j < n) (hn : n < 2 ^ 31) : Ct yJ3_checkIndex_8e157 cJ3_checkIndex_8e157 3 (some .int) 0 0 [.int (nI j), .int (nI n), .ref 950] h (Ei (nI j) h) := by
  refine Ct.of (by decide) (Nat.le_of_ble_eq_true rfl) (fun Γ o ρ => ?_)
  show ca_G Γ 3 _ _ [_, _, _] _
  refine g_iload_n (pc := 0) o dJ3_checkIndex_8e157_0 rfl ?_
  refine g_if_lt (pc := 1) o 9 dJ3_checkIndex_8e157_1 (by decide) (fun c1 => ?_) (fun c1 => ?_)
  · skip
    exact absurd c1 (nI_pos (by omega))
  · skip
    refine g_iload_n (pc := 4) o dJ3_checkIndex_8e157_4 rfl ?_
    refine g_iload_n (pc := 5) o dJ3_checkIndex_8e157_5 rfl ?_
    refine g_ic_lt (pc := 6) o 16 dJ3_checkIndex_8e157_6 (by decide) (fun c6 => ?_) (fun c6 => ?_)
    · skip
      refine g_iload_n (pc := 16) o dJ3_checkIndex_8e157_16 rfl ?_
      exact g_iret o ρ dJ3_checkIndex_8e157_17 (Ei.mk rfl rfl)
    · skip
      exact absurd ((nI_ltI (by omega) hn).mpr hj) c6
set_option maxRecDepth 100000 in
set_option maxHeartbeats 400000 in
theorem c_ck0 {h : Mem} (j n : Nat) (hj : j < n) (hn : n < 2 ^ 31) : Ct yJ0_checkIndex_df160 cJ0_checkIndex_df160 2 none 1 22 [.int (nI j), .int (nI n)] h (Ev h) := by
  refine Ct.of (by decide) (Nat.le_of_ble_eq_true rfl) (fun Γ o ρ => ?_)
  show ca_G Γ 2 _ _ [_, _] _
  refine g_iload_n (pc := 0) o dJ0_checkIndex_df160_0 rfl ?_
  refine g_iload_n (pc := 1) o dJ0_checkIndex_df160_1 rfl ?_
  refine g_fmt (pc := 2) o lf_J0_1053 dJ0_checkIndex_df160_2 (fun fv hfv => ?_)
  rcases hfv with rfl | rfl
  · skip
    refine g_callSi (pc := 5) o (c_ck3n j n hj hn) mt_J3_checkIndex_8e157 ms_J3_checkIndex_8e157 lk_J0_1059 rfl (by decide) rfl (Nat.le_of_ble_eq_true rfl) dJ0_checkIndex_df160_5 ?_
    refine g_pop (pc := 8) o dJ0_checkIndex_df160_8 rfl ?_
    exact g_vret o ρ dJ0_checkIndex_df160_9 ⟨rfl, rfl⟩
  · skip
    refine g_callSi (pc := 5) o (c_ck3r j n hj hn) mt_J3_checkIndex_8e157 ms_J3_checkIndex_8e157 lk_J0_1059 rfl (by decide) rfl (Nat.le_of_ble_eq_true rfl) dJ0_checkIndex_df160_5 ?_
    refine g_pop (pc := 8) o dJ0_checkIndex_df160_8 rfl ?_
    exact g_vret o ρ dJ0_checkIndex_df160_9 ⟨rfl, rfl⟩
set_option maxRecDepth 100000 in
set_option maxHeartbeats 400000 in
theorem c_charAt1 {h : Mem} {i : Nat} (hi : i < 12) (j : Nat) (hj : j < lnF i) : Ct yJ1_charAt_3b067 cJ1_charAt_3b067 2 (some .char) 2 43 [.ref (1100 + i), .int (nI j)] h (Ei (chF i j) h) := by
  refine Ct.of (by decide) (Nat.le_of_ble_eq_true rfl) (fun Γ o ρ => ?_)
  show ca_G Γ 2 _ _ [_, _] _
  have l7 := ln_7 i hi
  have hin : vp_in (nI j) (ca_slen.getD i 0) := vp_in_nI hj (by have := l7.1; have : ca_slen.getD i 0 = lnF i := rfl; omega)
  have cl : (nI j).toNatClampNeg = j := nI_clamp (by omega)
  refine g_iload_n (pc := 0) o dJ1_charAt_3b067_0 rfl ?_
  refine g_aload_n (pc := 1) o dJ1_charAt_3b067_1 rfl ?_
  refine g_slen (pc := 2) o hi dJ1_charAt_3b067_2 ?_
  refine g_callSv (pc := 3) o (c_ck0 j (lnF i) hj (by omega)) mt_J0_checkIndex_df160 ms_J0_checkIndex_df160 lk_J1_9 rfl (by decide) rfl (Nat.le_of_ble_eq_true rfl) dJ1_charAt_3b067_3 ?_
  refine g_aload_n (pc := 6) o dJ1_charAt_3b067_6 rfl ?_
  refine g_iload_n (pc := 7) o dJ1_charAt_3b067_7 rfl ?_
  refine g_sbyt (pc := 8) o hi hin dJ1_charAt_3b067_8 ?_
  rw [cl]
  refine g_sipush (pc := 9) o dJ1_charAt_3b067_9 255 rfl ?_
  refine g_iand (pc := 12) o dJ1_charAt_3b067_12 ?_
  refine g_i2c (pc := 13) o dJ1_charAt_3b067_13 ?_
  rw [ch_c i hi j (by omega)]
  exact g_zret o ρ (ch_n i hi j (by omega)) dJ1_charAt_3b067_14 (Ei.mk rfl rfl)
set_option maxRecDepth 100000 in
set_option maxHeartbeats 400000 in
theorem c_charAt {h : Mem} {i : Nat} (hi : i < 12) (j : Nat) (hj : j < lnF i) : Ct yJ0_charAt_5068e cJ0_charAt_5068e 2 (some .char) 4 85 [.ref (1000 + i), .int (nI j)] h (Ei (chF i j) h) := by
  refine Ct.of (by decide) (Nat.le_of_ble_eq_true rfl) (fun Γ o ρ => ?_)
  show ca_G Γ 2 _ _ [_, _] _
  have l7 := ln_7 i hi
  refine g_aload_n (pc := 0) o dJ0_charAt_5068e_0 rfl ?_
  refine g_callTi (pc := 1) o (c_latin hi) mt_J0_isLatin1_aae02 mv_J0_isLatin1_aae02 lk_J0_492 hi rfl rfl (by decide) rfl (Nat.le_of_ble_eq_true rfl) dJ0_charAt_5068e_1 ?_
  refine g_if_eq (pc := 4) o 16 dJ0_charAt_5068e_4 (by decide) (fun c4 => ?_) (fun c4 => ?_)
  · skip
    exact absurd c4 (by decide)
  · skip
    refine g_aload_n (pc := 7) o dJ0_charAt_5068e_7 rfl ?_
    refine g_sval (pc := 8) o hi lf_J0_9 dJ0_charAt_5068e_8 ?_
    refine g_iload_n (pc := 11) o dJ0_charAt_5068e_11 rfl ?_
    refine g_callSi (pc := 12) o (c_charAt1 hi j hj) mt_J1_charAt_3b067 ms_J1_charAt_3b067 lk_J0_495 rfl (by decide) rfl (Nat.le_of_ble_eq_true rfl) dJ0_charAt_5068e_12 ?_
    exact g_zret o ρ (ch_n i hi j (by omega)) dJ0_charAt_5068e_15 (Ei.mk rfl rfl)

