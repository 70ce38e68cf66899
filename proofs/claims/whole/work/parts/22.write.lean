/-! ===== write, copy, load ===== -/
def op_write (a i v : Int32) (σ : Sg) : Int32 × Sg := if rng a 0 3 then (if ¬ σ 5 (ca_n a) = 0 then (if 0 ≤ i.toInt ∧ i.toInt < (σ 6 (ca_n a)).toInt then (1, sf σ 7 (upd (σ 7) (ca_n a * 40 + ca_n i) (narF (σ 5 (ca_n a)) v))) else fnd σ 0) else fnd σ 5) else fnd σ 0
theorem Iv.sz {σ : Sg} (I : Iv σ) (k : Nat) (hk : k < 4) : ∃ m, m ≤ 40 ∧ σ 6 k = nI m ∧ (σ 6 k).toInt = m := by
  obtain ⟨-, m, hm, e, -⟩ := I.2.2.2.2.2.2 k hk
  exact ⟨m, hm, e, by rw [e, nI_toInt (by omega)]⟩
theorem CR_7 {h : Mem} {σ : Sg} (C : CR h σ) (i : Nat) (v : Int32) : CR (mw h 37 i v) (sf σ 7 (upd (σ 7) i v)) := by
  rw [← shS_7]
  exact CR_sh C C.b5 C.b6 (upd_cg C.b7) (fun k _ _ hk => mw_ne _ _ _ hk)
set_option maxRecDepth 100000 in
set_option maxHeartbeats 400000 in
theorem co_write {h : Mem} {σ : Sg} (C : CR h σ) (I : Iv σ) (a i v : Int32) : Ct yX9_write cX9_write 4 (some .int) 1 24 [.ref 0, .int a, .int i, .int v] h (Po h (op_write a i v σ)) := by
  refine Ct.of (by decide) (Nat.le_of_ble_eq_true rfl) (fun Γ o ρ => ?_)
  show ca_G Γ 4 _ _ [_, _, _, _] _
  refine g_iload_n (pc := 0) o dX9_write_0 rfl ?_
  refine g_callSi (pc := 1) o (c_isSheet a h) mt_X4_isSheet ms_X4_isSheet lk_X9_300 rfl (by decide) rfl (Nat.le_of_ble_eq_true rfl) dX9_write_1 ?_
  refine g_if_ne (pc := 4) o 13 dX9_write_4 (by decide) (fun c4 => ?_) (fun c4 => ?_)
  · skip
    have eq : op_write a i v σ = if ¬ σ 5 (ca_n a) = 0 then (if 0 ≤ i.toInt ∧ i.toInt < (σ 6 (ca_n a)).toInt then (1, sf σ 7 (upd (σ 7) (ca_n a * 40 + ca_n i) (narF (σ 5 (ca_n a)) v))) else fnd σ 0) else fnd σ 5 := if_pos (bI_n0.mp c4)
    rw [eq] at ρ
    obtain ⟨k, hk, rfl, ek⟩ := n_of (x := a) (b := 3) (bI_n0.mp c4) (by decide)
    rw [ek] at ρ
    obtain ⟨m, hm, em, tm⟩ := I.sz k (by omega)
    clear eq
    refine g_aload_n (pc := 13) o dX9_write_13 rfl ?_
    refine g_getR (pc := 14) o 5 rfl rfl rfl inX9 (by decide) lf_X9_33 dX9_write_14 ?_
    refine g_iload_n (pc := 17) o dX9_write_17 rfl ?_
    refine g_callVi (pc := 18) o (c_isMissing C k (by omega)) mt_X4_isMissing mv_X4_isMissing lk_X9_311 rfl rfl rfl (by decide) rfl (Nat.le_of_ble_eq_true rfl) dX9_write_18 ?_
    refine g_if_eq (pc := 21) o 30 dX9_write_21 (by decide) (fun c21 => ?_) (fun c21 => ?_)
    · skip
      rw [if_pos (bI_0.mp c21)] at ρ
      refine g_iload_n (pc := 30) o dX9_write_30 rfl ?_
      refine g_if_lt (pc := 31) o 46 dX9_write_31 (by decide) (fun c31 => ?_) (fun c31 => ?_)
      · skip
        refine g_aload_n (pc := 46) o dX9_write_46 rfl ?_
        refine g_iconst (pc := 47) o dX9_write_47 0 rfl ?_
        refine g_callVi (pc := 48) o (c_finding 0 (by decide) h) mt_X9_finding mv_X9_finding lk_X9_58 rfl rfl rfl (by decide) rfl (Nat.le_of_ble_eq_true rfl) dX9_write_48 ?_
        exact g_iret o ρ dX9_write_51 (Po.eq (if_neg (fun z => (by have := (lt0 i).mp c31; have := z.1; omega))) (Po_fnd C (by decide)))
      · skip
        have k1 := mt (lt0 i).mpr c31
        refine g_iload_n (pc := 34) o dX9_write_34 rfl ?_
        refine g_aload_n (pc := 35) o dX9_write_35 rfl ?_
        refine g_getR (pc := 36) o 5 rfl rfl rfl inX9 (by decide) lf_X9_33 dX9_write_36 ?_
        refine g_iload_n (pc := 39) o dX9_write_39 rfl ?_
        refine g_callVi (pc := 40) o (c_shsize k (by omega) (C.b6 k (by omega))) mt_X4_size mv_X4_size lk_X9_309 rfl rfl rfl (by decide) rfl (Nat.le_of_ble_eq_true rfl) dX9_write_40 ?_
        refine g_ic_lt (pc := 43) o 52 dX9_write_43 (by decide) (fun c43 => ?_) (fun c43 => ?_)
        · skip
          have k2 := Int32.lt_iff_toInt_lt.mp c43
          rw [if_pos ⟨by omega, k2⟩] at ρ
          obtain ⟨j, hj, rfl, ej⟩ := n_of (x := i) (b := 39) ⟨by omega, by omega⟩ (by decide)
          rw [ej] at ρ
          refine g_aload_n (pc := 52) o dX9_write_52 rfl ?_
          refine g_getR (pc := 53) o 5 rfl rfl rfl inX9 (by decide) lf_X9_33 dX9_write_53 ?_
          refine g_iload_n (pc := 56) o dX9_write_56 rfl ?_
          refine g_iload_n (pc := 57) o dX9_write_57 rfl ?_
          refine g_iload_n (pc := 58) o dX9_write_58 rfl ?_
          refine g_callVv (pc := 59) o (c_shset C k j (by omega) (by omega) v) mt_X4_set mv_X4_set lk_X9_314 rfl rfl rfl (by decide) rfl (Nat.le_of_ble_eq_true rfl) dX9_write_59 ?_
          refine g_iconst (pc := 62) o dX9_write_62 1 rfl ?_
          exact g_iret o ρ dX9_write_63 (Po.mk rfl (CR_7 C _ _) ((kM.rf h).mw (by decide)))
        · skip
          refine g_aload_n (pc := 46) o dX9_write_46 rfl ?_
          refine g_iconst (pc := 47) o dX9_write_47 0 rfl ?_
          refine g_callVi (pc := 48) o (c_finding 0 (by decide) h) mt_X9_finding mv_X9_finding lk_X9_58 rfl rfl rfl (by decide) rfl (Nat.le_of_ble_eq_true rfl) dX9_write_48 ?_
          exact g_iret o ρ dX9_write_51 (Po.eq (if_neg (fun z => c43 (Int32.lt_iff_toInt_lt.mpr z.2))) (Po_fnd C (by decide)))
    · skip
      refine g_aload_n (pc := 24) o dX9_write_24 rfl ?_
      refine g_iconst (pc := 25) o dX9_write_25 5 rfl ?_
      refine g_callVi (pc := 26) o (c_finding 5 (by decide) h) mt_X9_finding mv_X9_finding lk_X9_58 rfl rfl rfl (by decide) rfl (Nat.le_of_ble_eq_true rfl) dX9_write_26 ?_
      exact g_iret o ρ dX9_write_29 (Po.eq (if_neg (fun z => z (bI_n0.mp c21))) (Po_fnd C (by decide)))
  · skip
    refine g_aload_n (pc := 7) o dX9_write_7 rfl ?_
    refine g_iconst (pc := 8) o dX9_write_8 0 rfl ?_
    refine g_callVi (pc := 9) o (c_finding 0 (by decide) h) mt_X9_finding mv_X9_finding lk_X9_58 rfl rfl rfl (by decide) rfl (Nat.le_of_ble_eq_true rfl) dX9_write_9 ?_
    exact g_iret o ρ dX9_write_12 (Po.eq (if_neg (fun z => bI_0.mp c4 z)) (Po_fnd C (by decide)))
theorem m_wrong0 {h : Mem} (x : Int32) (hx : ¬ rng x 0 3) : Ct yX10_wrong cX10_wrong 2 (some .int) 2 45 [.ref 51, .int x] h (Ei (-1000001) h) := by
  refine Ct.of (by decide) (Nat.le_of_ble_eq_true rfl) (fun Γ o ρ => ?_)
  refine g_iload_n (pc := 0) o dX10_wrong_0 rfl ?_
  refine g_callSi (pc := 1) o (m_isOne x h) mt_X10_isOne ms_X10_isOne lk_X10_311 rfl (by decide) rfl (Nat.le_of_ble_eq_true rfl) dX10_wrong_1 ?_
  refine g_if_ne (pc := 4) o 12 dX10_wrong_4 (by decide) (fun c4 => ?_) (fun c4 => ?_)
  · skip
    exact absurd (bI_n0.mp c4) hx
  · skip
    refine g_ldc (pc := 7) o dX10_wrong_7 lc_X10_68 ?_
    refine g_goto (pc := 9) o 28 dX10_wrong_9 (by decide) ?_
    exact g_iret o ρ dX10_wrong_28 (Ei.mk rfl rfl)
theorem m_wrong5 {h : Mem} (k : Nat) (hk : k < 4) (hb : h.1 67 k = 0) : Ct yX10_wrong cX10_wrong 2 (some .int) 2 45 [.ref 51, .int (nI k)] h (Ei (-1000006) h) := by
  refine Ct.of (by decide) (Nat.le_of_ble_eq_true rfl) (fun Γ o ρ => ?_)
  refine g_iload_n (pc := 0) o dX10_wrong_0 rfl ?_
  refine g_callSi (pc := 1) o (m_isOne (nI k) h) mt_X10_isOne ms_X10_isOne lk_X10_311 rfl (by decide) rfl (Nat.le_of_ble_eq_true rfl) dX10_wrong_1 ?_
  refine g_if_ne (pc := 4) o 12 dX10_wrong_4 (by decide) (fun c4 => ?_) (fun c4 => ?_)
  · skip
    refine g_aload_n (pc := 12) o dX10_wrong_12 rfl ?_
    refine g_getR (pc := 13) o 25 rfl rfl rfl inX10 (by decide) lf_X10_56 dX10_wrong_13 ?_
    refine g_iload_n (pc := 16) o dX10_wrong_16 rfl ?_
    refine n_ialdE (pc := 17) o k (rfl) rfl ((by omega)) (by decide) (hb) dX10_wrong_17 ?_
    refine g_if_ne (pc := 18) o 27 dX10_wrong_18 (by decide) (fun c18 => ?_) (fun c18 => ?_)
    · skip
      exact absurd rfl c18
    · skip
      refine g_ldcw (pc := 21) o dX10_wrong_21 lc_X10_306 ?_
      refine g_goto (pc := 24) o 28 dX10_wrong_24 (by decide) ?_
      exact g_iret o ρ dX10_wrong_28 (Ei.mk rfl rfl)
  · skip
    exact absurd (rng_nI (b := 3) (by omega) (by decide)) (bI_0.mp c4)
theorem m_wrongN {h : Mem} (k : Nat) (hk : k < 4) (hb : ¬ h.1 67 k = 0) : Ct yX10_wrong cX10_wrong 2 (some .int) 2 45 [.ref 51, .int (nI k)] h (Ei 0 h) := by
  refine Ct.of (by decide) (Nat.le_of_ble_eq_true rfl) (fun Γ o ρ => ?_)
  refine g_iload_n (pc := 0) o dX10_wrong_0 rfl ?_
  refine g_callSi (pc := 1) o (m_isOne (nI k) h) mt_X10_isOne ms_X10_isOne lk_X10_311 rfl (by decide) rfl (Nat.le_of_ble_eq_true rfl) dX10_wrong_1 ?_
  refine g_if_ne (pc := 4) o 12 dX10_wrong_4 (by decide) (fun c4 => ?_) (fun c4 => ?_)
  · skip
    refine g_aload_n (pc := 12) o dX10_wrong_12 rfl ?_
    refine g_getR (pc := 13) o 25 rfl rfl rfl inX10 (by decide) lf_X10_56 dX10_wrong_13 ?_
    refine g_iload_n (pc := 16) o dX10_wrong_16 rfl ?_
    refine n_iald (pc := 17) o k (rfl) rfl ((by omega)) (by decide) dX10_wrong_17 ?_
    refine g_if_ne (pc := 18) o 27 dX10_wrong_18 (by decide) (fun c18 => ?_) (fun c18 => ?_)
    · skip
      refine g_iconst (pc := 27) o dX10_wrong_27 0 rfl ?_
      exact g_iret o ρ dX10_wrong_28 (Ei.mk rfl rfl)
    · skip
      exact absurd c18 hb
  · skip
    exact absurd (rng_nI (b := 3) (by omega) (by decide)) (bI_0.mp c4)
theorem abs_7 {h : Mem} (i : Nat) (v : Int32) : absM (mw h 69 i v) = sf (absM h) 7 (upd (h.1 69) i v) := abs_69
set_option maxRecDepth 100000 in
set_option maxHeartbeats 400000 in
theorem mo_write {h : Mem} (I : Iv (absM h)) (a i v : Int32) : Ct yX10_write cX10_write 5 (some .int) 3 66 [.ref 51, .int a, .int i, .int v] h (Pm h (op_write a i v (absM h))) := by
  refine Ct.of (by decide) (Nat.le_of_ble_eq_true rfl) (fun Γ o ρ => ?_)
  show ca_G Γ 5 _ _ [_, _, _, _, _] _
  by_cases ha : rng a 0 3
  · have eq : op_write a i v (absM h) = if ¬ h.1 67 (ca_n a) = 0 then (if 0 ≤ i.toInt ∧ i.toInt < (h.1 68 (ca_n a)).toInt then (1, sf (absM h) 7 (upd (h.1 69) (ca_n a * 40 + ca_n i) (narF (h.1 67 (ca_n a)) v))) else fnd (absM h) 0) else fnd (absM h) 5 := if_pos ha
    rw [eq] at ρ
    obtain ⟨k, hk, rfl, ek⟩ := n_of (x := a) (b := 3) ha (by decide)
    rw [ek] at ρ
    obtain ⟨m, hm, em, tm⟩ := I.sz k (by omega)
    have em : h.1 68 k = nI m := em
    have tm : (h.1 68 k).toInt = m := tm
    clear eq
    by_cases hb : h.1 67 k = 0
    · rw [if_neg (fun z => z hb)] at ρ
      refine g_aload_n (pc := 0) o dX10_write_0 rfl ?_
      refine g_iload_n (pc := 1) o dX10_write_1 rfl ?_
      refine g_callVi (pc := 2) o (m_wrong5 k (by omega) hb) mt_X10_wrong mv_X10_wrong lk_X10_315 rfl rfl rfl (by decide) rfl (Nat.le_of_ble_eq_true rfl) dX10_write_2 ?_
      refine g_istore (pc := 5) o dX10_write_5 (by decide) ?_
      show ca_G Γ 5 _ _ [_, _, _, _, _] _
      refine g_iload (pc := 7) o dX10_write_7 rfl ?_
      refine g_if_eq (pc := 9) o 19 dX10_write_9 (by decide) (fun c9 => ?_) (fun c9 => ?_)
      · skip
        exact absurd c9 (by decide)
      · skip
        refine g_aload_n (pc := 12) o dX10_write_12 rfl ?_
        refine g_iload (pc := 13) o dX10_write_13 rfl ?_
        refine g_callVi (pc := 15) o (m_finds 5 (by decide) h) mt_X10_finds mv_X10_finds lk_X10_86 rfl rfl rfl (by decide) rfl (Nat.le_of_ble_eq_true rfl) dX10_write_15 ?_
        exact g_iret o ρ dX10_write_18 (Pm_fnd rfl (kC.rf h) (by decide))
    · rw [if_pos hb] at ρ
      have d := in_dyn i (h.1 68 k) (by omega)
      refine g_aload_n (pc := 0) o dX10_write_0 rfl ?_
      refine g_iload_n (pc := 1) o dX10_write_1 rfl ?_
      refine g_callVi (pc := 2) o (m_wrongN k (by omega) hb) mt_X10_wrong mv_X10_wrong lk_X10_315 rfl rfl rfl (by decide) rfl (Nat.le_of_ble_eq_true rfl) dX10_write_2 ?_
      refine g_istore (pc := 5) o dX10_write_5 (by decide) ?_
      show ca_G Γ 5 _ _ [_, _, _, _, _] _
      refine g_iload (pc := 7) o dX10_write_7 rfl ?_
      refine g_if_eq (pc := 9) o 19 dX10_write_9 (by decide) (fun c9 => ?_) (fun c9 => ?_)
      · skip
        refine g_iload_n (pc := 19) o dX10_write_19 rfl ?_
        refine g_i2l (pc := 20) o dX10_write_20 ?_
        refine g_lconst (pc := 21) o dX10_write_21 0 rfl ?_
        refine g_aload_n (pc := 22) o dX10_write_22 rfl ?_
        refine g_getR (pc := 23) o 26 rfl rfl rfl inX10 (by decide) lf_X10_59 dX10_write_23 ?_
        refine g_iload_n (pc := 26) o dX10_write_26 rfl ?_
        refine n_iald (pc := 27) o k (rfl) rfl ((by omega)) (by decide) dX10_write_27 ?_
        refine g_iconst (pc := 28) o dX10_write_28 1 rfl ?_
        refine g_isub (pc := 29) o dX10_write_29 ?_
        refine g_i2l (pc := 30) o dX10_write_30 ?_
        refine g_callSi (pc := 31) o (m_in i.toInt64 0 (h.1 68 k - 1).toInt64 h) mt_X10_in ms_X10_in lk_X10_71 rfl (by decide) rfl (Nat.le_of_ble_eq_true rfl) dX10_write_31 ?_
        refine g_if_ne (pc := 34) o 44 dX10_write_34 (by decide) (fun c34 => ?_) (fun c34 => ?_)
        · skip
          rw [d] at c34
          have k2 := bI_n0.mp c34
          rw [if_pos k2] at ρ
          obtain ⟨j, hj, rfl, ej⟩ := n_of (x := i) (b := 39) ⟨by omega, by omega⟩ (by decide)
          rw [ej] at ρ
          refine g_aload_n (pc := 44) o dX10_write_44 rfl ?_
          refine g_getR (pc := 45) o 27 rfl rfl rfl inX10 (by decide) lf_X10_62 dX10_write_45 ?_
          refine g_bipush (pc := 48) o dX10_write_48 40 rfl ?_
          refine g_iload_n (pc := 50) o dX10_write_50 rfl ?_
          refine g_imul (pc := 51) o dX10_write_51 ?_
          refine g_iload_n (pc := 52) o dX10_write_52 rfl ?_
          refine g_iadd (pc := 53) o dX10_write_53 ?_
          refine g_aload_n (pc := 54) o dX10_write_54 rfl ?_
          refine g_getR (pc := 55) o 25 rfl rfl rfl inX10 (by decide) lf_X10_56 dX10_write_55 ?_
          refine g_iload_n (pc := 58) o dX10_write_58 rfl ?_
          refine n_iald (pc := 59) o k (rfl) rfl ((by omega)) (by decide) dX10_write_59 ?_
          refine g_iload_n (pc := 60) o dX10_write_60 rfl ?_
          refine g_callSi (pc := 61) o (m_narrowed (h.1 67 k) v h) mt_X10_narrowed ms_X10_narrowed lk_X10_318 rfl (by decide) rfl (Nat.le_of_ble_eq_true rfl) dX10_write_61 ?_
          refine n_iast (pc := 64) o (k * 40 + j) ((ix2 k 40 j).trans (by rw [Nat.mul_comm])) rfl ((by omega)) (by decide) dX10_write_64 ?_
          refine g_iconst (pc := 65) o dX10_write_65 1 rfl ?_
          exact g_iret o ρ dX10_write_66 (Pm.mk rfl (abs_7 _ _) ((kC.rf h).mw (by decide)))
        · skip
          refine g_aload_n (pc := 37) o dX10_write_37 rfl ?_
          refine g_ldc (pc := 38) o dX10_write_38 lc_X10_68 ?_
          refine g_callVi (pc := 40) o (m_finds 0 (by decide) h) mt_X10_finds mv_X10_finds lk_X10_86 rfl rfl rfl (by decide) rfl (Nat.le_of_ble_eq_true rfl) dX10_write_40 ?_
          exact g_iret o ρ dX10_write_43 (Pm.eq (if_neg (fun z => (by rw [d] at c34; exact bI_0.mp c34 z))) (Pm_fnd rfl (kC.rf h) (by decide)))
      · skip
        exact absurd rfl c9
  · skip
    refine g_aload_n (pc := 0) o dX10_write_0 rfl ?_
    refine g_iload_n (pc := 1) o dX10_write_1 rfl ?_
    refine g_callVi (pc := 2) o (m_wrong0 a ha) mt_X10_wrong mv_X10_wrong lk_X10_315 rfl rfl rfl (by decide) rfl (Nat.le_of_ble_eq_true rfl) dX10_write_2 ?_
    refine g_istore (pc := 5) o dX10_write_5 (by decide) ?_
    show ca_G Γ 5 _ _ [_, _, _, _, _] _
    refine g_iload (pc := 7) o dX10_write_7 rfl ?_
    refine g_if_eq (pc := 9) o 19 dX10_write_9 (by decide) (fun c9 => ?_) (fun c9 => ?_)
    · skip
      exact absurd c9 (by decide)
    · skip
      refine g_aload_n (pc := 12) o dX10_write_12 rfl ?_
      refine g_iload (pc := 13) o dX10_write_13 rfl ?_
      refine g_callVi (pc := 15) o (m_finds 0 (by decide) h) mt_X10_finds mv_X10_finds lk_X10_86 rfl rfl rfl (by decide) rfl (Nat.le_of_ble_eq_true rfl) dX10_write_15 ?_
      exact g_iret o ρ dX10_write_18 (Pm.eq (if_neg ha) (Pm_fnd rfl (kC.rf h) (by decide)))

