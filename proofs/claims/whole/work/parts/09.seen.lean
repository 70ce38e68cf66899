/-! ===== SIGHTINGS ===== -/
theorem dv_nI {a d : Nat} (ha : a < 2 ^ 31) (h0 : 0 < d) (hd : d < 2 ^ 31) : nI a / nI d = nI (a / d) := pk_div ha h0 hd
theorem rm_nI {a d : Nat} (ha : a < 2 ^ 31) (h0 : 0 < d) (hd : d < 2 ^ 31) : jrem (nI a) (nI d) = nI (a % d) := pk_rem ha h0 hd
abbrev wh (x : Int32) : Prop := rng x 0 2923 ∧ (jrem x 100).toInt ≤ 23
theorem wh_nI {j : Nat} (hj : j < 2 ^ 31) : wh (nI j) ↔ j / 100 < 30 ∧ j % 100 < 24 := by
  have e : jrem (nI j) 100 = nI (j % 100) := rm_nI hj (by decide) (by decide)
  rw [wh, rng, e, nI_toInt hj, nI_toInt (by omega)]
  omega
theorem wh_of {x : Int32} (h : wh x) : ∃ d m : Nat, d < 30 ∧ m < 24 ∧ x = nI (100 * d + m) ∧ x / 100 = nI d ∧ jrem x 100 = nI m := by
  obtain ⟨j, hj, rfl⟩ := rng_of (b := 2923) h.1 (by decide)
  have := (wh_nI (by omega)).mp h
  refine ⟨j / 100, j % 100, this.1, this.2, ?_, dv_nI (by omega) (by decide) (by decide), rm_nI (by omega) (by decide) (by decide)⟩
  rw [Nat.div_add_mod]
theorem wq (d m : Nat) (hm : m < 100) (hd : d < 10000) : nI (100 * d + m) / 100 = nI d ∧ jrem (nI (100 * d + m)) 100 = nI m := by
  refine ⟨(dv_nI (d := 100) (by omega) (by decide) (by decide)).trans (by congr 1; omega), (rm_nI (d := 100) (by omega) (by decide) (by decide)).trans (by congr 1; omega)⟩
theorem w_eq (x y : Int32) : (x / 100 = y / 100 ∧ jrem x 100 = jrem y 100) ↔ x = y := by
  constructor
  · rintro ⟨h1, h2⟩
    unfold jrem at h2
    rw [h1] at h2
    have := congrArg (fun z => z + y / 100 * 100) h2
    simpa using this
  · rintro rfl
    exact ⟨rfl, rfl⟩
set_option maxRecDepth 100000 in
set_option maxHeartbeats 4000000 in
theorem c_isWhen (x : Int32) (h : Mem) : Ct yX9_isWhen cX9_isWhen 1 (some .boolean) 1 20 [.int x] h (Ei (bI (wh x)) h) := by
  refine Ct.of (by decide) (Nat.le_of_ble_eq_true rfl) (fun Γ o ρ => ?_)
  refine g_iload_n (pc := 0) o dX9_isWhen_0 rfl ?_
  refine g_if_lt (pc := 1) o 26 dX9_isWhen_1 (by decide) (fun c1 => ?_) (fun c1 => ?_)
  · skip
    refine g_iconst (pc := 26) o dX9_isWhen_26 0 rfl ?_
    exact g_zret o ρ (by first | rfl | exact bI_b) dX9_isWhen_27 (Ei.mk (bI_f (fun z => by have := (lt0 x).mp c1; have := z.1.1; omega)) rfl)
  · skip
    obtain ⟨j, hj, rfl⟩ := nI_of c1
    have e1 : nI j / 100 = nI (j / 100) := dv_nI hj (by decide) (by decide)
    have e2 : jrem (nI j) 100 = nI (j % 100) := rm_nI hj (by decide) (by decide)
    refine g_iload_n (pc := 4) o dX9_isWhen_4 rfl ?_
    refine g_callSi (pc := 5) o (c_dayOf (nI j) h) mt_X9_dayOf ms_X9_dayOf lk_X9_99 rfl (by decide) rfl (Nat.le_of_ble_eq_true rfl) dX9_isWhen_5 ?_
    refine g_bipush (pc := 8) o dX9_isWhen_8 30 rfl ?_
    refine g_ic_ge (pc := 10) o 26 dX9_isWhen_10 (by decide) (fun c10 => ?_) (fun c10 => ?_)
    · skip
      rw [e1] at c10
      have := (nI_leI (a := 30) (by decide) (by omega)).mp c10
      refine g_iconst (pc := 26) o dX9_isWhen_26 0 rfl ?_
      exact g_zret o ρ (by first | rfl | exact bI_b) dX9_isWhen_27 (Ei.mk (bI_f (fun z => by have := (wh_nI hj).mp z; omega)) rfl)
    · skip
      rw [e1] at c10
      have k1 := mt (nI_leI (a := 30) (b := j / 100) (by decide) (by omega)).mpr c10
      refine g_iload_n (pc := 13) o dX9_isWhen_13 rfl ?_
      refine g_callSi (pc := 14) o (c_hourOf (nI j) h) mt_X9_hourOf ms_X9_hourOf lk_X9_102 rfl (by decide) rfl (Nat.le_of_ble_eq_true rfl) dX9_isWhen_14 ?_
      refine g_bipush (pc := 17) o dX9_isWhen_17 24 rfl ?_
      refine g_ic_ge (pc := 19) o 26 dX9_isWhen_19 (by decide) (fun c19 => ?_) (fun c19 => ?_)
      · skip
        rw [e2] at c19
        have := (nI_leI (a := 24) (by decide) (by omega)).mp c19
        refine g_iconst (pc := 26) o dX9_isWhen_26 0 rfl ?_
        exact g_zret o ρ (by first | rfl | exact bI_b) dX9_isWhen_27 (Ei.mk (bI_f (fun z => by have := (wh_nI hj).mp z; omega)) rfl)
      · skip
        rw [e2] at c19
        have k2 := mt (nI_leI (a := 24) (b := j % 100) (by decide) (by omega)).mpr c19
        refine g_iconst (pc := 22) o dX9_isWhen_22 1 rfl ?_
        refine g_goto (pc := 23) o 27 dX9_isWhen_23 (by decide) ?_
        exact g_zret o ρ (by first | rfl | exact bI_b) dX9_isWhen_27 (Ei.mk (bI_t ((wh_nI hj).mpr (by omega))) rfl)
set_option maxRecDepth 100000 in
set_option maxHeartbeats 4000000 in
theorem m_isWhen (x : Int32) (h : Mem) : Ct yX10_isWhen cX10_isWhen 1 (some .boolean) 1 25 [.int x] h (Ei (bI (wh x)) h) := by
  refine Ct.of (by decide) (Nat.le_of_ble_eq_true rfl) (fun Γ o ρ => ?_)
  refine g_iload_n (pc := 0) o dX10_isWhen_0 rfl ?_
  refine g_i2l (pc := 1) o dX10_isWhen_1 ?_
  refine g_lconst (pc := 2) o dX10_isWhen_2 0 rfl ?_
  refine g_ldc2 (pc := 3) o dX10_isWhen_3 lc_X10_79 ?_
  refine g_callSi (pc := 6) o (m_in x.toInt64 0 2923 h) mt_X10_in ms_X10_in lk_X10_71 rfl (by decide) rfl (Nat.le_of_ble_eq_true rfl) dX10_isWhen_6 ?_
  refine g_if_eq (pc := 9) o 25 dX10_isWhen_9 (by decide) (fun c9 => ?_) (fun c9 => ?_)
  · skip
    rw [in_rng x 0 2923 (by decide)] at c9
    refine g_iconst (pc := 25) o dX10_isWhen_25 0 rfl ?_
    exact g_zret o ρ (by first | rfl | exact bI_b) dX10_isWhen_26 (Ei.mk (bI_f (fun z => bI_0.mp c9 z.1)) rfl)
  · skip
    rw [in_rng x 0 2923 (by decide)] at c9
    have k := bI_n0.mp c9
    refine g_iload_n (pc := 12) o dX10_isWhen_12 rfl ?_
    refine g_bipush (pc := 13) o dX10_isWhen_13 100 rfl ?_
    refine g_irem (pc := 15) o dX10_isWhen_15 (by decide) ?_
    refine g_bipush (pc := 16) o dX10_isWhen_16 23 rfl ?_
    refine g_ic_gt (pc := 18) o 25 dX10_isWhen_18 (by decide) (fun c18 => ?_) (fun c18 => ?_)
    · skip
      have := (gtN (jrem x 100) 23 (by decide)).mp c18
      refine g_iconst (pc := 25) o dX10_isWhen_25 0 rfl ?_
      exact g_zret o ρ (by first | rfl | exact bI_b) dX10_isWhen_26 (Ei.mk (bI_f (fun z => by have := z.2; omega)) rfl)
    · skip
      have := mt (gtN (jrem x 100) 23 (by decide)).mpr c18
      refine g_iconst (pc := 21) o dX10_isWhen_21 1 rfl ?_
      refine g_goto (pc := 22) o 26 dX10_isWhen_22 (by decide) ?_
      exact g_zret o ρ (by first | rfl | exact bI_b) dX10_isWhen_26 (Ei.mk (bI_t ⟨k, by omega⟩) rfl)
def latF (s : Nat → Int32) (p w : Int32) : Nat → Int32
  | 0 => -1
  | n + 1 => if s (9 + 3 * n) = p ∧ s (11 + 3 * n) = w then nI n else latF s p w n
theorem latF_s (s : Nat → Int32) (p w : Int32) (n : Nat) : latF s p w (n + 1) = if s (9 + 3 * n) = p ∧ s (11 + 3 * n) = w then nI n else latF s p w n := rfl
theorem latF_c (s : Nat → Int32) (p w : Int32) : ∀ n, latF s p w n = -1 ∨ ∃ k, k < n ∧ latF s p w n = nI k
  | 0 => Or.inl rfl
  | n + 1 => by
    rw [latF_s]
    split
    · exact Or.inr ⟨n, by omega, rfl⟩
    · rcases latF_c s p w n with h | ⟨k, h1, h2⟩
      · exact Or.inl h
      · exact Or.inr ⟨k, by omega, h2⟩
set_option maxRecDepth 100000 in
set_option maxHeartbeats 4000000 in
theorem c_ssize {h : Mem} {s : Nat → Int32} (B : BR h 1 s) : Ct yX5_size cX5_size 1 (some .int) 0 0 [.ref 4] h (Ei (s 8) h) := by
  refine Ct.of (by decide) (Nat.le_of_ble_eq_true rfl) (fun Γ o ρ => ?_)
  refine g_aload_n (pc := 0) o dX5_size_0 rfl ?_
  refine g_getIE (pc := 1) o 1 rfl rfl rfl inX5 (by decide) lf_X5_15 (B.2.1) dX5_size_1 ?_
  exact g_iret o ρ dX5_size_4 (Ei.mk rfl rfl)
set_option maxRecDepth 100000 in
set_option maxHeartbeats 4000000 in
theorem c_hasRoom {h : Mem} {s : Nat → Int32} (B : BR h 1 s) : Ct yX5_hasRoom cX5_hasRoom 1 (some .boolean) 0 0 [.ref 4] h (Ei (bI ((s 8).toInt < 60)) h) := by
  refine Ct.of (by decide) (Nat.le_of_ble_eq_true rfl) (fun Γ o ρ => ?_)
  refine g_aload_n (pc := 0) o dX5_hasRoom_0 rfl ?_
  refine g_getIE (pc := 1) o 1 rfl rfl rfl inX5 (by decide) lf_X5_15 (B.2.1) dX5_hasRoom_1 ?_
  refine g_bipush (pc := 4) o dX5_hasRoom_4 60 rfl ?_
  refine g_ic_ge (pc := 6) o 13 dX5_hasRoom_6 (by decide) (fun c6 => ?_) (fun c6 => ?_)
  · skip
    refine g_iconst (pc := 13) o dX5_hasRoom_13 0 rfl ?_
    exact g_zret o ρ (by first | rfl | exact bI_b) dX5_hasRoom_14 (Ei.mk (bI_f (by have := (geN (s 8) 60 (by decide)).mp c6; omega)) rfl)
  · skip
    refine g_iconst (pc := 9) o dX5_hasRoom_9 1 rfl ?_
    refine g_goto (pc := 10) o 14 dX5_hasRoom_10 (by decide) ?_
    exact g_zret o ρ (by first | rfl | exact bI_b) dX5_hasRoom_14 (Ei.mk (bI_t (by have := mt (geN (s 8) 60 (by decide)).mpr c6; omega)) rfl)
set_option maxRecDepth 100000 in
set_option maxHeartbeats 4000000 in
theorem c_sfield {h : Mem} (k w : Nat) (hk : k < 60) (hw : w < 4) : Ct yX5_field cX5_field 3 (some .int) 0 0 [.ref 4, .int (nI k), .int (nI w)] h (Ei (h.1 5 (4 * k + w)) h) := by
  refine Ct.of (by decide) (Nat.le_of_ble_eq_true rfl) (fun Γ o ρ => ?_)
  refine g_aload_n (pc := 0) o dX5_field_0 rfl ?_
  refine g_getR (pc := 1) o 0 rfl rfl rfl inX5 (by decide) lf_X5_11 dX5_field_1 ?_
  refine g_iload_n (pc := 4) o dX5_field_4 rfl ?_
  refine g_iconst (pc := 5) o dX5_field_5 4 rfl ?_
  refine g_imul (pc := 6) o dX5_field_6 ?_
  refine g_iload_n (pc := 7) o dX5_field_7 rfl ?_
  refine g_iadd (pc := 8) o dX5_field_8 ?_
  refine n_iald (pc := 9) o (4 * k + w) ((ix k 4 w).trans (by rw [Nat.mul_comm])) rfl ((by omega)) (by decide) dX5_field_9 ?_
  exact g_iret o ρ dX5_field_10 (Ei.mk rfl rfl)
set_option maxRecDepth 100000 in
set_option maxHeartbeats 4000000 in
theorem c_isOf {h : Mem} {s : Nat → Int32} (B : BR h 1 s) (k : Nat) (hk : k < 60) (p d : Int32) : Ct yX5_isOf cX5_isOf 4 (some .boolean) 1 22 [.ref 4, .int (nI k), .int p, .int d] h (Ei (bI (s (9 + 3 * k) = p ∧ s (11 + 3 * k) / 100 = d)) h) := by
  refine Ct.of (by decide) (Nat.le_of_ble_eq_true rfl) (fun Γ o ρ => ?_)
  have b := B.2.2.1 k hk
  refine g_aload_n (pc := 0) o dX5_isOf_0 rfl ?_
  refine g_iload_n (pc := 1) o dX5_isOf_1 rfl ?_
  refine g_iconst (pc := 2) o dX5_isOf_2 0 rfl ?_
  refine g_callVi (pc := 3) o (c_sfield k 0 hk (by decide)) mt_X5_field mv_X5_field lk_X5_23 rfl rfl rfl (by decide) rfl (Nat.le_of_ble_eq_true rfl) dX5_isOf_3 ?_
  refine g_iload_n (pc := 6) o dX5_isOf_6 rfl ?_
  refine g_ic_ne (pc := 7) o 24 dX5_isOf_7 (by decide) (fun c7 => ?_) (fun c7 => ?_)

  · skip
    rw [show 4 * k + 0 = 4 * k from rfl, b.1] at c7
    refine g_iconst (pc := 24) o dX5_isOf_24 0 rfl ?_
    exact g_zret o ρ (by first | rfl | exact bI_b) dX5_isOf_25 (Ei.mk (bI_f (fun z => c7 z.1)) rfl)
  · skip
    rw [show 4 * k + 0 = 4 * k from rfl, b.1] at c7
    refine g_aload_n (pc := 10) o dX5_isOf_10 rfl ?_
    refine g_iload_n (pc := 11) o dX5_isOf_11 rfl ?_
    refine g_iconst (pc := 12) o dX5_isOf_12 2 rfl ?_
    refine g_callVi (pc := 13) o (c_sfield k 2 hk (by decide)) mt_X5_field mv_X5_field lk_X5_23 rfl rfl rfl (by decide) rfl (Nat.le_of_ble_eq_true rfl) dX5_isOf_13 ?_
    refine g_iload_n (pc := 16) o dX5_isOf_16 rfl ?_
    refine g_ic_ne (pc := 17) o 24 dX5_isOf_17 (by decide) (fun c17 => ?_) (fun c17 => ?_)
    · skip
      rw [b.2.2.1] at c17
      refine g_iconst (pc := 24) o dX5_isOf_24 0 rfl ?_
      exact g_zret o ρ (by first | rfl | exact bI_b) dX5_isOf_25 (Ei.mk (bI_f (fun z => c17 z.2)) rfl)
    · skip
      rw [b.2.2.1] at c17
      refine g_iconst (pc := 20) o dX5_isOf_20 1 rfl ?_
      refine g_goto (pc := 21) o 25 dX5_isOf_21 (by decide) ?_
      exact g_zret o ρ (by first | rfl | exact bI_b) dX5_isOf_25 (Ei.mk (bI_t ⟨c7, c17⟩) rfl)

