/-! ===== seen, seenOf, where, drift ===== -/
def nSeen (s : Nat → Int32) : Nat := ca_n (s 8)
def op_seen (a b c : Int32) (σ : Sg) : Int32 × Sg := if rng a 0 5 ∧ rng b 0 7 ∧ wh c then (if (σ 0 8).toInt < 60 then (nI (nSeen (σ 0)), sf σ 0 (sawS (σ 0) (nSeen (σ 0)) a b c)) else fnd σ 1) else fnd σ 0
def seenV (s : Nat → Int32) (k : Nat) (b : Int32) : Int32 := if b = 0 then s (9 + 3 * k) else if b = 1 then s (10 + 3 * k) else if b = 2 then s (11 + 3 * k) / 100 else if b = 3 then jrem (s (11 + 3 * k)) 100 else bI (latF s (s (9 + 3 * k)) (s (11 + 3 * k)) (nSeen s) = nI k)
def op_seenOf (a b : Int32) (σ : Sg) : Int32 × Sg := if (0 ≤ a.toInt ∧ a.toInt < (σ 0 8).toInt) ∧ rng b 0 4 then (seenV (σ 0) (ca_n a) b, σ) else fnd σ 0
def op_where (a b : Int32) (σ : Sg) : Int32 × Sg := if rng a 0 5 ∧ wh b then (if latF (σ 0) a b (nSeen (σ 0)) = -1 then fnd σ 3 else (σ 0 (10 + 3 * ca_n (latF (σ 0) a b (nSeen (σ 0)))), σ)) else fnd σ 0
theorem SI.seen {s : Nat → Int32} (I : SI s) : nSeen s ≤ 60 ∧ s 8 = nI (nSeen s) ∧ (s 8).toInt = nSeen s := by
  obtain ⟨n, hn, e⟩ := I.2.1
  unfold nSeen ca_n
  rw [e, nI_clamp (by omega), nI_toInt (by omega)]
  exact ⟨hn, rfl, rfl⟩
set_option maxRecDepth 100000 in
set_option maxHeartbeats 4000000 in
theorem co_seen {h : Mem} {σ : Sg} (C : CR h σ) (I : Iv σ) (a b c : Int32) : Ct yX9_seen cX9_seen 4 (some .int) 2 40 [.ref 0, .int a, .int b, .int c] h (Po h (op_seen a b c σ)) := by
  refine Ct.of (by decide) (Nat.le_of_ble_eq_true rfl) (fun Γ o ρ => ?_)
  obtain ⟨hn, e8, t8⟩ := I.1.seen
  refine g_iload_n (pc := 0) o dX9_seen_0 rfl ?_
  refine g_callSi (pc := 1) o (c_isPerson a h) mt_X9_isPerson ms_X9_isPerson lk_X9_83 rfl (by decide) rfl (Nat.le_of_ble_eq_true rfl) dX9_seen_1 ?_
  refine g_if_eq (pc := 4) o 21 dX9_seen_4 (by decide) (fun c4 => ?_) (fun c4 => ?_)
  · skip
    refine g_aload_n (pc := 21) o dX9_seen_21 rfl ?_
    refine g_iconst (pc := 22) o dX9_seen_22 0 rfl ?_
    refine g_callVi (pc := 23) o (c_finding 0 (by decide) h) mt_X9_finding mv_X9_finding lk_X9_58 rfl rfl rfl (by decide) rfl (Nat.le_of_ble_eq_true rfl) dX9_seen_23 ?_
    exact g_iret o ρ dX9_seen_26 (Po.eq (if_neg (fun z => bI_0.mp c4 z.1)) (Po_fnd C (by decide)))
  · skip
    refine g_iload_n (pc := 7) o dX9_seen_7 rfl ?_
    refine g_callSi (pc := 8) o (c_isPlace b h) mt_X9_isPlace ms_X9_isPlace lk_X9_54 rfl (by decide) rfl (Nat.le_of_ble_eq_true rfl) dX9_seen_8 ?_
    refine g_if_eq (pc := 11) o 21 dX9_seen_11 (by decide) (fun c11 => ?_) (fun c11 => ?_)
    · skip
      refine g_aload_n (pc := 21) o dX9_seen_21 rfl ?_
      refine g_iconst (pc := 22) o dX9_seen_22 0 rfl ?_
      refine g_callVi (pc := 23) o (c_finding 0 (by decide) h) mt_X9_finding mv_X9_finding lk_X9_58 rfl rfl rfl (by decide) rfl (Nat.le_of_ble_eq_true rfl) dX9_seen_23 ?_
      exact g_iret o ρ dX9_seen_26 (Po.eq (if_neg (fun z => bI_0.mp c11 z.2.1)) (Po_fnd C (by decide)))
    · skip
      refine g_iload_n (pc := 14) o dX9_seen_14 rfl ?_
      refine g_callSi (pc := 15) o (c_isWhen c h) mt_X9_isWhen ms_X9_isWhen lk_X9_86 rfl (by decide) rfl (Nat.le_of_ble_eq_true rfl) dX9_seen_15 ?_
      refine g_if_ne (pc := 18) o 27 dX9_seen_18 (by decide) (fun c18 => ?_) (fun c18 => ?_)
      · skip
        have eq : op_seen a b c σ = if (σ 0 8).toInt < 60 then (nI (nSeen (σ 0)), sf σ 0 (sawS (σ 0) (nSeen (σ 0)) a b c)) else fnd σ 1 := if_pos ⟨bI_n0.mp c4, bI_n0.mp c11, bI_n0.mp c18⟩
        rw [eq] at ρ
        refine g_aload_n (pc := 27) o dX9_seen_27 rfl ?_
        refine g_getR (pc := 28) o 0 rfl rfl rfl inX9 (by decide) lf_X9_10 dX9_seen_28 ?_
        refine g_getR (pc := 31) o 1 rfl rfl rfl inX0 (by decide) lf_X9_89 dX9_seen_31 ?_
        refine g_callVi (pc := 34) o (c_hasRoom C.1) mt_X5_hasRoom mv_X5_hasRoom lk_X9_93 rfl rfl rfl (by decide) rfl (Nat.le_of_ble_eq_true rfl) dX9_seen_34 ?_
        refine g_if_ne (pc := 37) o 46 dX9_seen_37 (by decide) (fun c37 => ?_) (fun c37 => ?_)
        · skip
          have k := bI_n0.mp c37
          refine g_aload_n (pc := 46) o dX9_seen_46 rfl ?_
          refine g_getR (pc := 47) o 0 rfl rfl rfl inX9 (by decide) lf_X9_10 dX9_seen_47 ?_
          refine g_getR (pc := 50) o 1 rfl rfl rfl inX0 (by decide) lf_X9_89 dX9_seen_50 ?_
          refine g_iload_n (pc := 53) o dX9_seen_53 rfl ?_
          refine g_iload_n (pc := 54) o dX9_seen_54 rfl ?_
          refine g_iload_n (pc := 55) o dX9_seen_55 rfl ?_
          refine g_callSi (pc := 56) o (c_dayOf c h) mt_X9_dayOf ms_X9_dayOf lk_X9_99 rfl (by decide) rfl (Nat.le_of_ble_eq_true rfl) dX9_seen_56 ?_
          refine g_iload_n (pc := 59) o dX9_seen_59 rfl ?_
          refine g_callSi (pc := 60) o (c_hourOf c h) mt_X9_hourOf ms_X9_hourOf lk_X9_102 rfl (by decide) rfl (Nat.le_of_ble_eq_true rfl) dX9_seen_60 ?_
          refine g_callVi (pc := 63) o (c_sadd C.1 (n := nSeen (σ 0)) (by omega) e8 a b (c / 100) (jrem c 100)) mt_X5_add mv_X5_add lk_X9_105 rfl rfl rfl (by decide) rfl (Nat.le_of_ble_eq_true rfl) dX9_seen_63 ?_
          exact g_iret o ρ dX9_seen_66 (Po.eq (if_pos k) (Po.mk rfl (CR_saw C (by omega) a b c) (kM_saw (kM.rf h))))
        · skip
          refine g_aload_n (pc := 40) o dX9_seen_40 rfl ?_
          refine g_iconst (pc := 41) o dX9_seen_41 1 rfl ?_
          refine g_callVi (pc := 42) o (c_finding 1 (by decide) h) mt_X9_finding mv_X9_finding lk_X9_58 rfl rfl rfl (by decide) rfl (Nat.le_of_ble_eq_true rfl) dX9_seen_42 ?_
          exact g_iret o ρ dX9_seen_45 (Po.eq (if_neg (bI_0.mp c37)) (Po_fnd C (by decide)))
      · skip
        refine g_aload_n (pc := 21) o dX9_seen_21 rfl ?_
        refine g_iconst (pc := 22) o dX9_seen_22 0 rfl ?_
        refine g_callVi (pc := 23) o (c_finding 0 (by decide) h) mt_X9_finding mv_X9_finding lk_X9_58 rfl rfl rfl (by decide) rfl (Nat.le_of_ble_eq_true rfl) dX9_seen_23 ?_
        exact g_iret o ρ dX9_seen_26 (Po.eq (if_neg (fun z => bI_0.mp c18 z.2.2)) (Po_fnd C (by decide)))
theorem abs_saw {h : Mem} {n : Nat} {p q w : Int32} : absM (seeM h n p q w) = sf (absM h) 0 (sawS (h.1 52) n p q w) := abs_s (fun k hk => seeM_off (fun z => by subst z; revert hk; decide))
theorem kC_see {h h1 : Mem} (H : kC h h1) {n : Nat} {p q w : Int32} : kC h (seeM h1 n p q w) := fun k hk => (seeM_off (by omega)).trans (H k hk)
set_option maxRecDepth 100000 in
set_option maxHeartbeats 4000000 in
theorem mo_seen {h : Mem} (I : Iv (absM h)) (a b c : Int32) : Ct yX10_seen cX10_seen 4 (some .int) 2 45 [.ref 51, .int a, .int b, .int c] h (Pm h (op_seen a b c (absM h))) := by
  refine Ct.of (by decide) (Nat.le_of_ble_eq_true rfl) (fun Γ o ρ => ?_)
  obtain ⟨hn, e8, t8⟩ := I.1.seen
  refine g_iload_n (pc := 0) o dX10_seen_0 rfl ?_
  refine g_callSi (pc := 1) o (m_isPerson a h) mt_X10_isPerson ms_X10_isPerson lk_X10_98 rfl (by decide) rfl (Nat.le_of_ble_eq_true rfl) dX10_seen_1 ?_
  refine g_if_eq (pc := 4) o 21 dX10_seen_4 (by decide) (fun c4 => ?_) (fun c4 => ?_)
  · skip
    refine g_aload_n (pc := 21) o dX10_seen_21 rfl ?_
    refine g_ldc (pc := 22) o dX10_seen_22 lc_X10_68 ?_
    refine g_callVi (pc := 24) o (m_finds 0 (by decide) h) mt_X10_finds mv_X10_finds lk_X10_86 rfl rfl rfl (by decide) rfl (Nat.le_of_ble_eq_true rfl) dX10_seen_24 ?_
    exact g_iret o ρ dX10_seen_27 (Pm.eq (if_neg (fun z => bI_0.mp c4 z.1)) (Pm_fnd rfl (kC.rf h) (by decide)))
  · skip
    refine g_iload_n (pc := 7) o dX10_seen_7 rfl ?_
    refine g_callSi (pc := 8) o (m_isPlace b h) mt_X10_isPlace ms_X10_isPlace lk_X10_82 rfl (by decide) rfl (Nat.le_of_ble_eq_true rfl) dX10_seen_8 ?_
    refine g_if_eq (pc := 11) o 21 dX10_seen_11 (by decide) (fun c11 => ?_) (fun c11 => ?_)
    · skip
      refine g_aload_n (pc := 21) o dX10_seen_21 rfl ?_
      refine g_ldc (pc := 22) o dX10_seen_22 lc_X10_68 ?_
      refine g_callVi (pc := 24) o (m_finds 0 (by decide) h) mt_X10_finds mv_X10_finds lk_X10_86 rfl rfl rfl (by decide) rfl (Nat.le_of_ble_eq_true rfl) dX10_seen_24 ?_
      exact g_iret o ρ dX10_seen_27 (Pm.eq (if_neg (fun z => bI_0.mp c11 z.2.1)) (Pm_fnd rfl (kC.rf h) (by decide)))
    · skip
      refine g_iload_n (pc := 14) o dX10_seen_14 rfl ?_
      refine g_callSi (pc := 15) o (m_isWhen c h) mt_X10_isWhen ms_X10_isWhen lk_X10_101 rfl (by decide) rfl (Nat.le_of_ble_eq_true rfl) dX10_seen_15 ?_
      refine g_if_ne (pc := 18) o 28 dX10_seen_18 (by decide) (fun c18 => ?_) (fun c18 => ?_)
      · skip
        have eq : op_seen a b c (absM h) = if (h.1 52 8).toInt < 60 then (nI (nSeen (h.1 52)), sf (absM h) 0 (sawS (h.1 52) (nSeen (h.1 52)) a b c)) else fnd (absM h) 1 := if_pos ⟨bI_n0.mp c4, bI_n0.mp c11, bI_n0.mp c18⟩
        rw [eq] at ρ
        refine g_aload_n (pc := 28) o dX10_seen_28 rfl ?_
        refine g_getR (pc := 29) o 0 rfl rfl rfl inX10 (by decide) lf_X10_7 dX10_seen_29 ?_
        refine g_bipush (pc := 32) o dX10_seen_32 8 rfl ?_
        refine n_iald (pc := 34) o 8 (rfl) rfl ((by omega)) (by decide) dX10_seen_34 ?_
        refine g_bipush (pc := 35) o dX10_seen_35 60 rfl ?_
        refine g_ic_ne (pc := 37) o 49 dX10_seen_37 (by decide) (fun c37 => ?_) (fun c37 => ?_)
        · skip
          have k : (h.1 52 8).toInt < 60 := by
            have := mt (eqN (h.1 52 8) 60 (by decide)).mpr c37
            have t8 : (h.1 52 8).toInt = nSeen (h.1 52) := t8
            have hn : nSeen (h.1 52) ≤ 60 := hn
            omega
          have t8 : (h.1 52 8).toInt = nSeen (h.1 52) := t8
          refine g_aload_n (pc := 49) o dX10_seen_49 rfl ?_
          refine g_iload_n (pc := 50) o dX10_seen_50 rfl ?_
          refine g_iload_n (pc := 51) o dX10_seen_51 rfl ?_
          refine g_iload_n (pc := 52) o dX10_seen_52 rfl ?_
          refine g_callVi (pc := 53) o (m_sees (h := h) (n := nSeen (h.1 52)) (by omega) e8 a b c) mt_X10_sees mv_X10_sees lk_X10_105 rfl rfl rfl (by decide) rfl (Nat.le_of_ble_eq_true rfl) dX10_seen_53 ?_
          exact g_iret o ρ dX10_seen_56 (Pm.eq (if_pos k) (Pm.mk rfl abs_saw (kC_see (kC.rf h))))
        · skip
          have k := (eqN (h.1 52 8) 60 (by decide)).mp c37
          refine g_aload_n (pc := 40) o dX10_seen_40 rfl ?_
          refine g_ldc (pc := 41) o dX10_seen_41 lc_X10_104 ?_
          refine g_callVi (pc := 43) o (m_finds 1 (by decide) h) mt_X10_finds mv_X10_finds lk_X10_86 rfl rfl rfl (by decide) rfl (Nat.le_of_ble_eq_true rfl) dX10_seen_43 ?_
          refine g_goto (pc := 46) o 56 dX10_seen_46 (by decide) ?_
          exact g_iret o ρ dX10_seen_56 (Pm.eq (if_neg (by omega)) (Pm_fnd rfl (kC.rf h) (by decide)))
      · skip
        refine g_aload_n (pc := 21) o dX10_seen_21 rfl ?_
        refine g_ldc (pc := 22) o dX10_seen_22 lc_X10_68 ?_
        refine g_callVi (pc := 24) o (m_finds 0 (by decide) h) mt_X10_finds mv_X10_finds lk_X10_86 rfl rfl rfl (by decide) rfl (Nat.le_of_ble_eq_true rfl) dX10_seen_24 ?_
        exact g_iret o ρ dX10_seen_27 (Pm.eq (if_neg (fun z => bI_0.mp c18 z.2.2)) (Pm_fnd rfl (kC.rf h) (by decide)))
set_option maxRecDepth 100000 in
set_option maxHeartbeats 4000000 in
theorem co_where {h : Mem} {σ : Sg} (C : CR h σ) (I : Iv σ) (a b : Int32) : Ct yX9_where cX9_where 4 (some .int) 3 69 [.ref 0, .int a, .int b] h (Po h (op_where a b σ)) := by
  refine Ct.of (by decide) (Nat.le_of_ble_eq_true rfl) (fun Γ o ρ => ?_)
  obtain ⟨hn, e8, t8⟩ := I.1.seen
  refine g_iload_n (pc := 0) o dX9_where_0 rfl ?_
  refine g_callSi (pc := 1) o (c_isPerson a h) mt_X9_isPerson ms_X9_isPerson lk_X9_83 rfl (by decide) rfl (Nat.le_of_ble_eq_true rfl) dX9_where_1 ?_
  refine g_if_eq (pc := 4) o 14 dX9_where_4 (by decide) (fun c4 => ?_) (fun c4 => ?_)
  · skip
    refine g_aload_n (pc := 14) o dX9_where_14 rfl ?_
    refine g_iconst (pc := 15) o dX9_where_15 0 rfl ?_
    refine g_callVi (pc := 16) o (c_finding 0 (by decide) h) mt_X9_finding mv_X9_finding lk_X9_58 rfl rfl rfl (by decide) rfl (Nat.le_of_ble_eq_true rfl) dX9_where_16 ?_
    exact g_iret o ρ dX9_where_19 (Po.eq (if_neg (fun z => bI_0.mp c4 z.1)) (Po_fnd C (by decide)))
  · skip
    refine g_iload_n (pc := 7) o dX9_where_7 rfl ?_
    refine g_callSi (pc := 8) o (c_isWhen b h) mt_X9_isWhen ms_X9_isWhen lk_X9_86 rfl (by decide) rfl (Nat.le_of_ble_eq_true rfl) dX9_where_8 ?_
    refine g_if_ne (pc := 11) o 20 dX9_where_11 (by decide) (fun c11 => ?_) (fun c11 => ?_)
    · skip
      have eq : op_where a b σ = if latF (σ 0) a b (nSeen (σ 0)) = -1 then fnd σ 3 else (σ 0 (10 + 3 * ca_n (latF (σ 0) a b (nSeen (σ 0)))), σ) := if_pos ⟨bI_n0.mp c4, bI_n0.mp c11⟩
      rw [eq] at ρ
      clear eq
      refine g_aload_n (pc := 20) o dX9_where_20 rfl ?_
      refine g_getR (pc := 21) o 0 rfl rfl rfl inX9 (by decide) lf_X9_10 dX9_where_21 ?_
      refine g_getR (pc := 24) o 1 rfl rfl rfl inX0 (by decide) lf_X9_89 dX9_where_24 ?_
      refine g_iload_n (pc := 27) o dX9_where_27 rfl ?_
      refine g_iload_n (pc := 28) o dX9_where_28 rfl ?_
      refine g_callSi (pc := 29) o (c_dayOf b h) mt_X9_dayOf ms_X9_dayOf lk_X9_99 rfl (by decide) rfl (Nat.le_of_ble_eq_true rfl) dX9_where_29 ?_
      refine g_iload_n (pc := 32) o dX9_where_32 rfl ?_
      refine g_callSi (pc := 33) o (c_hourOf b h) mt_X9_hourOf ms_X9_hourOf lk_X9_102 rfl (by decide) rfl (Nat.le_of_ble_eq_true rfl) dX9_where_33 ?_
      refine g_callVi (pc := 36) o (c_latest C.1 hn e8 a b) mt_X5_latest mv_X5_latest lk_X9_119 rfl rfl rfl (by decide) rfl (Nat.le_of_ble_eq_true rfl) dX9_where_36 ?_
      refine g_istore_n (pc := 39) o dX9_where_39 (by decide) ?_
      refine g_iload_n (pc := 40) o dX9_where_40 rfl ?_
      refine g_iconst (pc := 41) o dX9_where_41 (-1) rfl ?_
      refine g_ic_ne (pc := 42) o 53 dX9_where_42 (by decide) (fun c42 => ?_) (fun c42 => ?_)
      · skip
        rw [if_neg c42] at ρ
        rcases latF_c (σ 0) a b (nSeen (σ 0)) with z | ⟨k, hk, z⟩
        · exact absurd z c42
        rw [z] at ρ ⊢
        have ek : ca_n (nI k) = k := nI_clamp (by omega)
        rw [ek] at ρ
        refine g_aload_n (pc := 53) o dX9_where_53 rfl ?_
        refine g_getR (pc := 54) o 0 rfl rfl rfl inX9 (by decide) lf_X9_10 dX9_where_54 ?_
        refine g_getR (pc := 57) o 1 rfl rfl rfl inX0 (by decide) lf_X9_89 dX9_where_57 ?_
        refine g_iload_n (pc := 60) o dX9_where_60 rfl ?_
        refine g_iconst (pc := 61) o dX9_where_61 1 rfl ?_
        refine g_callVi (pc := 62) o (c_sfield k 1 (by omega) (by decide)) mt_X5_field mv_X5_field lk_X9_116 rfl rfl rfl (by decide) rfl (Nat.le_of_ble_eq_true rfl) dX9_where_62 ?_
        exact g_iret o ρ dX9_where_65 (Po.mk (C.1.2.2.1 k (by omega)).2.1 C (kM.rf h))
      · skip
        refine g_aload_n (pc := 45) o dX9_where_45 rfl ?_
        refine g_iconst (pc := 46) o dX9_where_46 3 rfl ?_
        refine g_callVi (pc := 47) o (c_finding 3 (by decide) h) mt_X9_finding mv_X9_finding lk_X9_58 rfl rfl rfl (by decide) rfl (Nat.le_of_ble_eq_true rfl) dX9_where_47 ?_
        refine g_goto (pc := 50) o 65 dX9_where_50 (by decide) ?_
        exact g_iret o ρ dX9_where_65 (Po.eq (if_pos c42) (Po_fnd C (by decide)))
    · skip
      refine g_aload_n (pc := 14) o dX9_where_14 rfl ?_
      refine g_iconst (pc := 15) o dX9_where_15 0 rfl ?_
      refine g_callVi (pc := 16) o (c_finding 0 (by decide) h) mt_X9_finding mv_X9_finding lk_X9_58 rfl rfl rfl (by decide) rfl (Nat.le_of_ble_eq_true rfl) dX9_where_16 ?_
      exact g_iret o ρ dX9_where_19 (Po.eq (if_neg (fun z => bI_0.mp c11 z.2)) (Po_fnd C (by decide)))
set_option maxRecDepth 100000 in
set_option maxHeartbeats 4000000 in
theorem mo_where {h : Mem} (I : Iv (absM h)) (a b : Int32) : Ct yX10_where cX10_where 4 (some .int) 2 45 [.ref 51, .int a, .int b] h (Pm h (op_where a b (absM h))) := by
  refine Ct.of (by decide) (Nat.le_of_ble_eq_true rfl) (fun Γ o ρ => ?_)
  obtain ⟨hn, e8, t8⟩ := I.1.seen
  have hn : nSeen (h.1 52) ≤ 60 := hn
  refine g_iload_n (pc := 0) o dX10_where_0 rfl ?_
  refine g_callSi (pc := 1) o (m_isPerson a h) mt_X10_isPerson ms_X10_isPerson lk_X10_98 rfl (by decide) rfl (Nat.le_of_ble_eq_true rfl) dX10_where_1 ?_
  refine g_if_eq (pc := 4) o 14 dX10_where_4 (by decide) (fun c4 => ?_) (fun c4 => ?_)
  · skip
    refine g_aload_n (pc := 14) o dX10_where_14 rfl ?_
    refine g_ldc (pc := 15) o dX10_where_15 lc_X10_68 ?_
    refine g_callVi (pc := 17) o (m_finds 0 (by decide) h) mt_X10_finds mv_X10_finds lk_X10_86 rfl rfl rfl (by decide) rfl (Nat.le_of_ble_eq_true rfl) dX10_where_17 ?_
    exact g_iret o ρ dX10_where_20 (Pm.eq (if_neg (fun z => bI_0.mp c4 z.1)) (Pm_fnd rfl (kC.rf h) (by decide)))
  · skip
    refine g_iload_n (pc := 7) o dX10_where_7 rfl ?_
    refine g_callSi (pc := 8) o (m_isWhen b h) mt_X10_isWhen ms_X10_isWhen lk_X10_101 rfl (by decide) rfl (Nat.le_of_ble_eq_true rfl) dX10_where_8 ?_
    refine g_if_ne (pc := 11) o 21 dX10_where_11 (by decide) (fun c11 => ?_) (fun c11 => ?_)
    · skip
      have eq : op_where a b (absM h) = if latF (h.1 52) a b (nSeen (h.1 52)) = -1 then fnd (absM h) 3 else (h.1 52 (10 + 3 * ca_n (latF (h.1 52) a b (nSeen (h.1 52)))), absM h) := if_pos ⟨bI_n0.mp c4, bI_n0.mp c11⟩
      rw [eq] at ρ
      clear eq
      refine g_aload_n (pc := 21) o dX10_where_21 rfl ?_
      refine g_iload_n (pc := 22) o dX10_where_22 rfl ?_
      refine g_iload_n (pc := 23) o dX10_where_23 rfl ?_
      refine g_callVi (pc := 24) o (m_latest hn e8 a b) mt_X10_latest mv_X10_latest lk_X10_111 rfl rfl rfl (by decide) rfl (Nat.le_of_ble_eq_true rfl) dX10_where_24 ?_
      refine g_istore_n (pc := 27) o dX10_where_27 (by decide) ?_
      refine g_iload_n (pc := 28) o dX10_where_28 rfl ?_
      refine g_if_ge (pc := 29) o 41 dX10_where_29 (by decide) (fun c29 => ?_) (fun c29 => ?_)
      · skip
        rcases latF_c (h.1 52) a b (nSeen (h.1 52)) with z | ⟨k, hk, z⟩
        · rw [z] at c29; exact absurd c29 (by decide)
        rw [if_neg (by rw [z]; exact nI_ne_m1 (by omega))] at ρ
        rw [z] at ρ ⊢
        have ek : ca_n (nI k) = k := nI_clamp (by omega)
        rw [ek] at ρ
        have q1 : nI 9 + nI 3 * nI k + nI 1 = nI (10 + 3 * k) := by rw [pk_mul, nI_add, nI_add]; congr 1; omega
        refine g_aload_n (pc := 41) o dX10_where_41 rfl ?_
        refine g_getR (pc := 42) o 0 rfl rfl rfl inX10 (by decide) lf_X10_7 dX10_where_42 ?_
        refine g_bipush (pc := 45) o dX10_where_45 9 rfl ?_
        refine g_iconst (pc := 47) o dX10_where_47 3 rfl ?_
        refine g_iload_n (pc := 48) o dX10_where_48 rfl ?_
        refine g_imul (pc := 49) o dX10_where_49 ?_
        refine g_iadd (pc := 50) o dX10_where_50 ?_
        refine g_iconst (pc := 51) o dX10_where_51 1 rfl ?_
        refine g_iadd (pc := 52) o dX10_where_52 ?_
        refine n_iald (pc := 53) o (10 + 3 * k) (q1) rfl ((by omega)) (by decide) dX10_where_53 ?_
        exact g_iret o ρ dX10_where_54 (Pm.mk rfl rfl (kC.rf h))
      · skip
        have z : latF (h.1 52) a b (nSeen (h.1 52)) = -1 := by
          rcases latF_c (h.1 52) a b (nSeen (h.1 52)) with z | ⟨k, hk, z⟩
          · exact z
          · rw [z] at c29; exact absurd (nI_pos' (by omega)) c29
        refine g_aload_n (pc := 32) o dX10_where_32 rfl ?_
        refine g_ldc (pc := 33) o dX10_where_33 lc_X10_97 ?_
        refine g_callVi (pc := 35) o (m_finds 3 (by decide) h) mt_X10_finds mv_X10_finds lk_X10_86 rfl rfl rfl (by decide) rfl (Nat.le_of_ble_eq_true rfl) dX10_where_35 ?_
        refine g_goto (pc := 38) o 54 dX10_where_38 (by decide) ?_
        exact g_iret o ρ dX10_where_54 (Pm.eq (if_pos z) (Pm_fnd rfl (kC.rf h) (by decide)))
    · skip
      refine g_aload_n (pc := 14) o dX10_where_14 rfl ?_
      refine g_ldc (pc := 15) o dX10_where_15 lc_X10_68 ?_
      refine g_callVi (pc := 17) o (m_finds 0 (by decide) h) mt_X10_finds mv_X10_finds lk_X10_86 rfl rfl rfl (by decide) rfl (Nat.le_of_ble_eq_true rfl) dX10_where_17 ?_
      exact g_iret o ρ dX10_where_20 (Pm.eq (if_neg (fun z => bI_0.mp c11 z.2)) (Pm_fnd rfl (kC.rf h) (by decide)))

