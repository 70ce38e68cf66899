/-! ===== seenOf, drift ===== -/
set_option maxRecDepth 100000 in
set_option maxHeartbeats 4000000 in
theorem co_seenOf {h : Mem} {σ : Sg} (C : CR h σ) (I : Iv σ) (a b : Int32) : Ct yX9_seenOf cX9_seenOf 3 (some .int) 4 90 [.ref 0, .int a, .int b] h (Po h (op_seenOf a b σ)) := by
  refine Ct.of (by decide) (Nat.le_of_ble_eq_true rfl) (fun Γ o ρ => ?_)
  obtain ⟨hn, e8, t8⟩ := I.1.seen
  refine g_iload_n (pc := 0) o dX9_seenOf_0 rfl ?_
  refine g_if_lt (pc := 1) o 27 dX9_seenOf_1 (by decide) (fun c1 => ?_) (fun c1 => ?_)
  · skip
    refine g_aload_n (pc := 27) o dX9_seenOf_27 rfl ?_
    refine g_iconst (pc := 28) o dX9_seenOf_28 0 rfl ?_
    refine g_callVi (pc := 29) o (c_finding 0 (by decide) h) mt_X9_finding mv_X9_finding lk_X9_58 rfl rfl rfl (by decide) rfl (Nat.le_of_ble_eq_true rfl) dX9_seenOf_29 ?_
    exact g_iret o ρ dX9_seenOf_32 (Po.eq (if_neg (fun z => (by have := (lt0 a).mp c1; have := z.1.1; omega))) (Po_fnd C (by decide)))
  · skip
    refine g_iload_n (pc := 4) o dX9_seenOf_4 rfl ?_
    refine g_aload_n (pc := 5) o dX9_seenOf_5 rfl ?_
    refine g_getR (pc := 6) o 0 rfl rfl rfl inX9 (by decide) lf_X9_10 dX9_seenOf_6 ?_
    refine g_getR (pc := 9) o 1 rfl rfl rfl inX0 (by decide) lf_X9_89 dX9_seenOf_9 ?_
    refine g_callVi (pc := 12) o (c_ssize C.1) mt_X5_size mv_X5_size lk_X9_109 rfl rfl rfl (by decide) rfl (Nat.le_of_ble_eq_true rfl) dX9_seenOf_12 ?_
    refine g_ic_ge (pc := 15) o 27 dX9_seenOf_15 (by decide) (fun c15 => ?_) (fun c15 => ?_)
    · skip
      refine g_aload_n (pc := 27) o dX9_seenOf_27 rfl ?_
      refine g_iconst (pc := 28) o dX9_seenOf_28 0 rfl ?_
      refine g_callVi (pc := 29) o (c_finding 0 (by decide) h) mt_X9_finding mv_X9_finding lk_X9_58 rfl rfl rfl (by decide) rfl (Nat.le_of_ble_eq_true rfl) dX9_seenOf_29 ?_
      exact g_iret o ρ dX9_seenOf_32 (Po.eq (if_neg (fun z => (by have := Int32.le_iff_toInt_le.mp c15; have := z.1.2; omega))) (Po_fnd C (by decide)))
    · skip
      refine g_iload_n (pc := 18) o dX9_seenOf_18 rfl ?_
      refine g_if_lt (pc := 19) o 27 dX9_seenOf_19 (by decide) (fun c19 => ?_) (fun c19 => ?_)
      · skip
        refine g_aload_n (pc := 27) o dX9_seenOf_27 rfl ?_
        refine g_iconst (pc := 28) o dX9_seenOf_28 0 rfl ?_
        refine g_callVi (pc := 29) o (c_finding 0 (by decide) h) mt_X9_finding mv_X9_finding lk_X9_58 rfl rfl rfl (by decide) rfl (Nat.le_of_ble_eq_true rfl) dX9_seenOf_29 ?_
        exact g_iret o ρ dX9_seenOf_32 (Po.eq (if_neg (fun z => (by have := (lt0 b).mp c19; have := z.2.1; omega))) (Po_fnd C (by decide)))
      · skip
        refine g_iload_n (pc := 22) o dX9_seenOf_22 rfl ?_
        refine g_iconst (pc := 23) o dX9_seenOf_23 4 rfl ?_
        refine g_ic_le (pc := 24) o 33 dX9_seenOf_24 (by decide) (fun c24 => ?_) (fun c24 => ?_)
        · skip
          have k1 := mt (lt0 a).mpr c1
          have k2 := mt Int32.le_iff_toInt_le.mpr c15
          have k3 := mt (lt0 b).mpr c19
          have k4 := (leN b 4 (by decide)).mp c24
          have eq : op_seenOf a b σ = (seenV (σ 0) (ca_n a) b, σ) := if_pos ⟨⟨by omega, by omega⟩, ⟨by omega, by omega⟩⟩
          rw [eq] at ρ
          obtain ⟨i, hi, rfl, ei⟩ := n_of (x := a) (b := 59) ⟨by omega, by omega⟩ (by decide)
          obtain ⟨j, hj, rfl, ej⟩ := n_of (x := b) (b := 4) ⟨by omega, by omega⟩ (by decide)
          rw [ei] at ρ
          have b := C.1.2.2.1 i (by omega)
          refine g_iload_n (pc := 33) o dX9_seenOf_33 rfl ?_
          refine g_iconst (pc := 34) o dX9_seenOf_34 4 rfl ?_
          refine g_ic_ne (pc := 35) o 58 dX9_seenOf_35 (by decide) (fun c35 => ?_) (fun c35 => ?_)
          · skip
            have hj : j < 4 := by
              rcases Nat.lt_or_ge j 4 with q | q
              · exact q
              · exact absurd (show nI j = nI 4 by rw [show j = 4 by omega]) c35
            refine g_aload_n (pc := 58) o dX9_seenOf_58 rfl ?_
            refine g_getR (pc := 59) o 0 rfl rfl rfl inX9 (by decide) lf_X9_10 dX9_seenOf_59 ?_
            refine g_getR (pc := 62) o 1 rfl rfl rfl inX0 (by decide) lf_X9_89 dX9_seenOf_62 ?_
            refine g_iload_n (pc := 65) o dX9_seenOf_65 rfl ?_
            refine g_iload_n (pc := 66) o dX9_seenOf_66 rfl ?_
            refine g_callVi (pc := 67) o (c_sfield i j (by omega) hj) mt_X5_field mv_X5_field lk_X9_116 rfl rfl rfl (by decide) rfl (Nat.le_of_ble_eq_true rfl) dX9_seenOf_67 ?_
            exact g_iret o ρ dX9_seenOf_70 (Po.mk (by rcases (by omega : j = 0 ∨ j = 1 ∨ j = 2 ∨ j = 3) with rfl | rfl | rfl | rfl; exact b.1; exact b.2.1; exact b.2.2.1; exact b.2.2.2) C (kM.rf h))
          · skip
            have e4 : seenV (σ 0) i (nI j) = bI (latF (σ 0) (σ 0 (9 + 3 * i)) (σ 0 (11 + 3 * i)) (nSeen (σ 0)) = nI i) := by rw [show nI j = 4 from c35]; rfl
            rw [e4] at ρ
            refine g_aload_n (pc := 38) o dX9_seenOf_38 rfl ?_
            refine g_getR (pc := 39) o 0 rfl rfl rfl inX9 (by decide) lf_X9_10 dX9_seenOf_39 ?_
            refine g_getR (pc := 42) o 1 rfl rfl rfl inX0 (by decide) lf_X9_89 dX9_seenOf_42 ?_
            refine g_iload_n (pc := 45) o dX9_seenOf_45 rfl ?_
            refine g_callVi (pc := 46) o (c_counts C.1 hn e8 i (by omega)) mt_X5_counts mv_X5_counts lk_X9_113 rfl rfl rfl (by decide) rfl (Nat.le_of_ble_eq_true rfl) dX9_seenOf_46 ?_
            refine g_if_eq (pc := 49) o 56 dX9_seenOf_49 (by decide) (fun c49 => ?_) (fun c49 => ?_)
            · skip
              refine g_iconst (pc := 56) o dX9_seenOf_56 0 rfl ?_
              exact g_iret o ρ dX9_seenOf_57 (Po.mk (bI_f (bI_0.mp c49)) C (kM.rf h))
            · skip
              refine g_iconst (pc := 52) o dX9_seenOf_52 1 rfl ?_
              refine g_goto (pc := 53) o 57 dX9_seenOf_53 (by decide) ?_
              exact g_iret o ρ dX9_seenOf_57 (Po.mk (bI_t (bI_n0.mp c49)) C (kM.rf h))
        · skip
          refine g_aload_n (pc := 27) o dX9_seenOf_27 rfl ?_
          refine g_iconst (pc := 28) o dX9_seenOf_28 0 rfl ?_
          refine g_callVi (pc := 29) o (c_finding 0 (by decide) h) mt_X9_finding mv_X9_finding lk_X9_58 rfl rfl rfl (by decide) rfl (Nat.le_of_ble_eq_true rfl) dX9_seenOf_29 ?_
          exact g_iret o ρ dX9_seenOf_32 (Po.eq (if_neg (fun z => (by have := mt (leN b 4 (by decide)).mpr c24; have := z.2.2; omega))) (Po_fnd C (by decide)))
theorem in_dyn (x y : Int32) (hy : 0 ≤ y.toInt) : bI ((0 : Int64) ≤ x.toInt64 ∧ x.toInt64 ≤ (y - 1).toInt64) = bI (0 ≤ x.toInt ∧ x.toInt < y.toInt) := by
  have e : (y - 1).toInt = y.toInt - 1 := by
    obtain ⟨j, hj, rfl⟩ := nI_of (x := y) (fun z => by have := (lt0 y).mp z; omega)
    cases j with
    | zero => decide
    | succ j => rw [nI_pred, nI_toInt (by omega), nI_toInt (by omega)]; omega
  unfold bI
  simp only [Int64.le_iff_toInt_le, Int32.toInt_toInt64, e]
  have : (0 : Int64).toInt = 0 := by decide
  rw [this]
  by_cases h : 0 ≤ x.toInt ∧ x.toInt < y.toInt
  · rw [if_pos h, if_pos (by omega)]
  · rw [if_neg h, if_neg (by omega)]
set_option maxRecDepth 100000 in
set_option maxHeartbeats 4000000 in
theorem mo_seenOf {h : Mem} (I : Iv (absM h)) (a b : Int32) : Ct yX10_seenOf cX10_seenOf 4 (some .int) 1 25 [.ref 51, .int a, .int b] h (Pm h (op_seenOf a b (absM h))) := by
  refine Ct.of (by decide) (Nat.le_of_ble_eq_true rfl) (fun Γ o ρ => ?_)
  obtain ⟨hn, e8, t8⟩ := I.1.seen
  have hn : nSeen (h.1 52) ≤ 60 := hn
  have t8 : (h.1 52 8).toInt = nSeen (h.1 52) := t8
  have d1 := in_dyn a (h.1 52 8) (by omega)
  have d2 := in_rng b 0 4 (by decide)
  refine g_iload_n (pc := 0) o dX10_seenOf_0 rfl ?_
  refine g_i2l (pc := 1) o dX10_seenOf_1 ?_
  refine g_lconst (pc := 2) o dX10_seenOf_2 0 rfl ?_
  refine g_aload_n (pc := 3) o dX10_seenOf_3 rfl ?_
  refine g_getR (pc := 4) o 0 rfl rfl rfl inX10 (by decide) lf_X10_7 dX10_seenOf_4 ?_
  refine g_bipush (pc := 7) o dX10_seenOf_7 8 rfl ?_
  refine n_iald (pc := 9) o 8 (rfl) rfl ((by omega)) (by decide) dX10_seenOf_9 ?_
  refine g_iconst (pc := 10) o dX10_seenOf_10 1 rfl ?_
  refine g_isub (pc := 11) o dX10_seenOf_11 ?_
  refine g_i2l (pc := 12) o dX10_seenOf_12 ?_
  refine g_callSi (pc := 13) o (m_in a.toInt64 0 (h.1 52 8 - 1).toInt64 h) mt_X10_in ms_X10_in lk_X10_71 rfl (by decide) rfl (Nat.le_of_ble_eq_true rfl) dX10_seenOf_13 ?_
  refine g_if_eq (pc := 16) o 31 dX10_seenOf_16 (by decide) (fun c16 => ?_) (fun c16 => ?_)
  · skip
    refine g_aload_n (pc := 31) o dX10_seenOf_31 rfl ?_
    refine g_ldc (pc := 32) o dX10_seenOf_32 lc_X10_68 ?_
    refine g_callVi (pc := 34) o (m_finds 0 (by decide) h) mt_X10_finds mv_X10_finds lk_X10_86 rfl rfl rfl (by decide) rfl (Nat.le_of_ble_eq_true rfl) dX10_seenOf_34 ?_
    exact g_iret o ρ dX10_seenOf_37 (Pm.eq (if_neg (fun z => (by rw [d1] at c16; exact bI_0.mp c16 z.1))) (Pm_fnd rfl (kC.rf h) (by decide)))
  · skip
    refine g_iload_n (pc := 19) o dX10_seenOf_19 rfl ?_
    refine g_i2l (pc := 20) o dX10_seenOf_20 ?_
    refine g_lconst (pc := 21) o dX10_seenOf_21 0 rfl ?_
    refine g_ldc2 (pc := 22) o dX10_seenOf_22 lc_X10_109 ?_
    refine g_callSi (pc := 25) o (m_in b.toInt64 0 4 h) mt_X10_in ms_X10_in lk_X10_71 rfl (by decide) rfl (Nat.le_of_ble_eq_true rfl) dX10_seenOf_25 ?_
    refine g_if_ne (pc := 28) o 38 dX10_seenOf_28 (by decide) (fun c28 => ?_) (fun c28 => ?_)
    · skip
      rw [d1] at c16
      rw [d2] at c28
      have k1 := bI_n0.mp c16
      have k2 := bI_n0.mp c28
      have eq : op_seenOf a b (absM h) = (seenV (h.1 52) (ca_n a) b, absM h) := if_pos ⟨k1, k2⟩
      rw [eq] at ρ
      obtain ⟨i, hi, rfl, ei⟩ := n_of (x := a) (b := 59) ⟨by omega, by omega⟩ (by decide)
      obtain ⟨j, hj, rfl, ej⟩ := n_of (x := b) (b := 4) k2 (by decide)
      rw [ei] at ρ
      have q0 : nI 9 + nI 3 * nI i = nI (9 + 3 * i) := by rw [pk_mul, nI_add]
      have q2 : nI 9 + nI 3 * nI i + nI 2 = nI (11 + 3 * i) := by rw [pk_mul, nI_add, nI_add]; congr 1; omega
      refine g_bipush (pc := 38) o dX10_seenOf_38 9 rfl ?_
      refine g_iconst (pc := 40) o dX10_seenOf_40 3 rfl ?_
      refine g_iload_n (pc := 41) o dX10_seenOf_41 rfl ?_
      refine g_imul (pc := 42) o dX10_seenOf_42 ?_
      refine g_iadd (pc := 43) o dX10_seenOf_43 ?_
      refine g_istore_n (pc := 44) o dX10_seenOf_44 (by decide) ?_
      refine g_iload_n (pc := 45) o dX10_seenOf_45 rfl ?_
      refine g_iconst (pc := 46) o dX10_seenOf_46 2 rfl ?_
      refine g_ic_ge (pc := 47) o 61 dX10_seenOf_47 (by decide) (fun c47 => ?_) (fun c47 => ?_)
      · skip
        have j2 := (nI_leI (a := 2) (b := j) (by decide) (by omega)).mp c47
        refine g_iload_n (pc := 61) o dX10_seenOf_61 rfl ?_
        refine g_iconst (pc := 62) o dX10_seenOf_62 2 rfl ?_
        refine g_ic_ne (pc := 63) o 80 dX10_seenOf_63 (by decide) (fun c63 => ?_) (fun c63 => ?_)
        · skip
          refine g_iload_n (pc := 80) o dX10_seenOf_80 rfl ?_
          refine g_iconst (pc := 81) o dX10_seenOf_81 3 rfl ?_
          refine g_ic_ne (pc := 82) o 99 dX10_seenOf_82 (by decide) (fun c82 => ?_) (fun c82 => ?_)
          · skip
            have e4 : j = 4 := by
              have n2 : j ≠ 2 := fun q => c63 (by rw [q]; rfl)
              have n3 : j ≠ 3 := fun q => c82 (by rw [q]; rfl)
              omega
            subst e4
            refine g_aload_n (pc := 99) o dX10_seenOf_99 rfl ?_
            refine g_aload_n (pc := 100) o dX10_seenOf_100 rfl ?_
            refine g_getR (pc := 101) o 0 rfl rfl rfl inX10 (by decide) lf_X10_7 dX10_seenOf_101 ?_
            refine g_iload_n (pc := 104) o dX10_seenOf_104 rfl ?_
            refine n_iald (pc := 105) o (9 + 3 * i) (q0) rfl ((by omega)) (by decide) dX10_seenOf_105 ?_
            refine g_aload_n (pc := 106) o dX10_seenOf_106 rfl ?_
            refine g_getR (pc := 107) o 0 rfl rfl rfl inX10 (by decide) lf_X10_7 dX10_seenOf_107 ?_
            refine g_iload_n (pc := 110) o dX10_seenOf_110 rfl ?_
            refine g_iconst (pc := 111) o dX10_seenOf_111 2 rfl ?_
            refine g_iadd (pc := 112) o dX10_seenOf_112 ?_
            refine n_iald (pc := 113) o (11 + 3 * i) (q2) rfl ((by omega)) (by decide) dX10_seenOf_113 ?_
            refine g_callVi (pc := 114) o (m_latest hn e8 (h.1 52 (9 + 3 * i)) (h.1 52 (11 + 3 * i))) mt_X10_latest mv_X10_latest lk_X10_111 rfl rfl rfl (by decide) rfl (Nat.le_of_ble_eq_true rfl) dX10_seenOf_114 ?_
            refine g_iload_n (pc := 117) o dX10_seenOf_117 rfl ?_
            refine g_ic_ne (pc := 118) o 125 dX10_seenOf_118 (by decide) (fun c118 => ?_) (fun c118 => ?_)
            · skip
              refine g_iconst (pc := 125) o dX10_seenOf_125 0 rfl ?_
              exact g_iret o ρ dX10_seenOf_126 (Pm.mk (bI_f c118) rfl (kC.rf h))
            · skip
              refine g_iconst (pc := 121) o dX10_seenOf_121 1 rfl ?_
              refine g_goto (pc := 122) o 126 dX10_seenOf_122 (by decide) ?_
              exact g_iret o ρ dX10_seenOf_126 (Pm.mk (bI_t c118) rfl (kC.rf h))
          · skip
            rw [c82] at ρ
            refine g_aload_n (pc := 85) o dX10_seenOf_85 rfl ?_
            refine g_getR (pc := 86) o 0 rfl rfl rfl inX10 (by decide) lf_X10_7 dX10_seenOf_86 ?_
            refine g_iload_n (pc := 89) o dX10_seenOf_89 rfl ?_
            refine g_iconst (pc := 90) o dX10_seenOf_90 2 rfl ?_
            refine g_iadd (pc := 91) o dX10_seenOf_91 ?_
            refine n_iald (pc := 92) o (11 + 3 * i) (q2) rfl ((by omega)) (by decide) dX10_seenOf_92 ?_
            refine g_bipush (pc := 93) o dX10_seenOf_93 100 rfl ?_
            refine g_irem (pc := 95) o dX10_seenOf_95 (by decide) ?_
            refine g_goto (pc := 96) o 126 dX10_seenOf_96 (by decide) ?_
            exact g_iret o ρ dX10_seenOf_126 (Pm.mk rfl rfl (kC.rf h))
        · skip
          rw [c63] at ρ
          refine g_aload_n (pc := 66) o dX10_seenOf_66 rfl ?_
          refine g_getR (pc := 67) o 0 rfl rfl rfl inX10 (by decide) lf_X10_7 dX10_seenOf_67 ?_
          refine g_iload_n (pc := 70) o dX10_seenOf_70 rfl ?_
          refine g_iconst (pc := 71) o dX10_seenOf_71 2 rfl ?_
          refine g_iadd (pc := 72) o dX10_seenOf_72 ?_
          refine n_iald (pc := 73) o (11 + 3 * i) (q2) rfl ((by omega)) (by decide) dX10_seenOf_73 ?_
          refine g_bipush (pc := 74) o dX10_seenOf_74 100 rfl ?_
          refine g_idiv (pc := 76) o dX10_seenOf_76 (by decide) ?_
          refine g_goto (pc := 77) o 126 dX10_seenOf_77 (by decide) ?_
          exact g_iret o ρ dX10_seenOf_126 (Pm.mk rfl rfl (kC.rf h))
      · skip
        have j2 := mt (nI_leI (a := 2) (b := j) (by decide) (by omega)).mpr c47
        have qj : nI 9 + nI 3 * nI i + nI j = nI (9 + 3 * i + j) := by rw [pk_mul, nI_add, nI_add]
        refine g_aload_n (pc := 50) o dX10_seenOf_50 rfl ?_
        refine g_getR (pc := 51) o 0 rfl rfl rfl inX10 (by decide) lf_X10_7 dX10_seenOf_51 ?_
        refine g_iload_n (pc := 54) o dX10_seenOf_54 rfl ?_
        refine g_iload_n (pc := 55) o dX10_seenOf_55 rfl ?_
        refine g_iadd (pc := 56) o dX10_seenOf_56 ?_
        refine n_iald (pc := 57) o (9 + 3 * i + j) (qj) rfl ((by omega)) (by decide) dX10_seenOf_57 ?_
        refine g_goto (pc := 58) o 126 dX10_seenOf_58 (by decide) ?_
        exact g_iret o ρ dX10_seenOf_126 (Pm.mk (by rcases (by omega : j = 0 ∨ j = 1) with rfl | rfl; rfl; exact congrArg (h.1 52) (by omega)) rfl (kC.rf h))

    · skip
      refine g_aload_n (pc := 31) o dX10_seenOf_31 rfl ?_
      refine g_ldc (pc := 32) o dX10_seenOf_32 lc_X10_68 ?_
      refine g_callVi (pc := 34) o (m_finds 0 (by decide) h) mt_X10_finds mv_X10_finds lk_X10_86 rfl rfl rfl (by decide) rfl (Nat.le_of_ble_eq_true rfl) dX10_seenOf_34 ?_
      exact g_iret o ρ dX10_seenOf_37 (Pm.eq (if_neg (fun z => (by rw [d2] at c28; exact bI_0.mp c28 z.2))) (Pm_fnd rfl (kC.rf h) (by decide)))
