/-! ===== span, change ===== -/
abbrev spOK (w f t : Int32) : Prop := 0 ≤ f.toInt ∧ f.toInt ≤ t.toInt ∧ t.toInt ≤ (if w = 0 then 23 else 29)
def op_span (a w f t : Int32) (σ : Sg) : Int32 × Sg := if isT (σ 0) a ∧ rng w 0 1 ∧ spOK w f t then (1, sf σ 0 (setS (σ 0) (ca_n a) (3 + 2 * ca_n w) f t)) else fnd σ 0
set_option maxRecDepth 100000 in
set_option maxHeartbeats 400000 in
theorem co_span {h : Mem} {σ : Sg} (C : CR h σ) (I : Iv σ) (a w f t : Int32) : Ct yX9_span cX9_span 6 (some .int) 1 23 [.ref 0, .int a, .int w, .int f, .int t] h (Po h (op_span a w f t σ)) := by
  refine Ct.of (by decide) (Nat.le_of_ble_eq_true rfl) (fun Γ o ρ => ?_)
  show ca_G Γ 6 _ _ [_, _, _, _, _, _] _
  have ok := I.1.terms
  refine g_aload_n (pc := 0) o dX9_span_0 rfl ?_
  refine g_getR (pc := 1) o 0 rfl rfl rfl inX9 (by decide) lf_X9_10 dX9_span_1 ?_
  refine g_getR (pc := 4) o 2 rfl rfl rfl inX0 (by decide) lf_X9_137 dX9_span_4 ?_
  refine g_iload_n (pc := 7) o dX9_span_7 rfl ?_
  refine g_callVi (pc := 8) o (c_isTerm C.1 a) mt_X7_isTerm mv_X7_isTerm lk_X9_146 rfl rfl rfl (by decide) rfl (Nat.le_of_ble_eq_true rfl) dX9_span_8 ?_
  refine g_if_eq (pc := 11) o 23 dX9_span_11 (by decide) (fun c11 => ?_) (fun c11 => ?_)
  · skip
    refine g_aload_n (pc := 23) o dX9_span_23 rfl ?_
    refine g_iconst (pc := 24) o dX9_span_24 0 rfl ?_
    refine g_callVi (pc := 25) o (c_finding 0 (by decide) h) mt_X9_finding mv_X9_finding lk_X9_58 rfl rfl rfl (by decide) rfl (Nat.le_of_ble_eq_true rfl) dX9_span_25 ?_
    exact g_iret o ρ dX9_span_28 (Po.eq (if_neg (fun z => bI_0.mp c11 z.1)) (Po_fnd C (by decide)))
  · skip
    refine g_iload_n (pc := 14) o dX9_span_14 rfl ?_
    refine g_if_lt (pc := 15) o 23 dX9_span_15 (by decide) (fun c15 => ?_) (fun c15 => ?_)
    · skip
      refine g_aload_n (pc := 23) o dX9_span_23 rfl ?_
      refine g_iconst (pc := 24) o dX9_span_24 0 rfl ?_
      refine g_callVi (pc := 25) o (c_finding 0 (by decide) h) mt_X9_finding mv_X9_finding lk_X9_58 rfl rfl rfl (by decide) rfl (Nat.le_of_ble_eq_true rfl) dX9_span_25 ?_
      exact g_iret o ρ dX9_span_28 (Po.eq (if_neg (fun z => (by have := (lt0 w).mp c15; have := z.2.1.1; omega))) (Po_fnd C (by decide)))
    · skip
      refine g_iload_n (pc := 18) o dX9_span_18 rfl ?_
      refine g_iconst (pc := 19) o dX9_span_19 1 rfl ?_
      refine g_ic_le (pc := 20) o 29 dX9_span_20 (by decide) (fun c20 => ?_) (fun c20 => ?_)
      · skip
        have k1 := mt (lt0 w).mpr c15
        have k2 := (leN w 1 (by decide)).mp c20
        have hT := bI_n0.mp c11
        obtain ⟨j, hj, ew, ej⟩ := n_of (x := w) (b := 1) ⟨by omega, by omega⟩ (by decide)
        obtain ⟨u, hu, hu2, rfl, eu⟩ := t_of ok hT
        have eq : spOK w f t → op_span (nI u) w f t σ = (1, sf σ 0 (setS (σ 0) u (3 + 2 * j) f t)) := fun z => (show op_span (nI u) w f t σ = (1, sf σ 0 (setS (σ 0) (ca_n (nI u)) (3 + 2 * ca_n w) f t)) from if_pos ⟨hT, ⟨by omega, by omega⟩, z⟩).trans (by rw [eu, ej])
        rcases (by omega : j = 0 ∨ j = 1) with rfl | rfl
        · subst ew
          refine g_iload_n (pc := 29) o dX9_span_29 rfl ?_
          refine g_if_ne (pc := 30) o 38 dX9_span_30 (by decide) (fun c30 => ?_) (fun c30 => ?_)
          · skip
            exact absurd rfl c30
          · skip
            refine g_bipush (pc := 33) o dX9_span_33 24 rfl ?_
            refine g_goto (pc := 35) o 40 dX9_span_35 (by decide) ?_
            refine g_istore (pc := 40) o dX9_span_40 (by decide) ?_
            show ca_G Γ 6 _ _ [_, _, _, _, _, _] _
            refine g_iload_n (pc := 42) o dX9_span_42 rfl ?_
            refine g_if_lt (pc := 43) o 59 dX9_span_43 (by decide) (fun c43 => ?_) (fun c43 => ?_)
            · skip
              refine g_aload_n (pc := 59) o dX9_span_59 rfl ?_
              refine g_iconst (pc := 60) o dX9_span_60 0 rfl ?_
              refine g_callVi (pc := 61) o (c_finding 0 (by decide) h) mt_X9_finding mv_X9_finding lk_X9_58 rfl rfl rfl (by decide) rfl (Nat.le_of_ble_eq_true rfl) dX9_span_61 ?_
              exact g_iret o ρ dX9_span_64 (Po.eq (if_neg (fun z => (by have := (lt0 f).mp c43; have := z.2.2.1; omega))) (Po_fnd C (by decide)))
            · skip
              refine g_iload (pc := 46) o dX9_span_46 rfl ?_
              refine g_iload_n (pc := 48) o dX9_span_48 rfl ?_
              refine g_ic_lt (pc := 49) o 59 dX9_span_49 (by decide) (fun c49 => ?_) (fun c49 => ?_)
              · skip
                refine g_aload_n (pc := 59) o dX9_span_59 rfl ?_
                refine g_iconst (pc := 60) o dX9_span_60 0 rfl ?_
                refine g_callVi (pc := 61) o (c_finding 0 (by decide) h) mt_X9_finding mv_X9_finding lk_X9_58 rfl rfl rfl (by decide) rfl (Nat.le_of_ble_eq_true rfl) dX9_span_61 ?_
                exact g_iret o ρ dX9_span_64 (Po.eq (if_neg (fun z => (by have := Int32.lt_iff_toInt_lt.mp c49; have := z.2.2.2.1; omega))) (Po_fnd C (by decide)))
              · skip
                refine g_iload (pc := 52) o dX9_span_52 rfl ?_
                refine g_iload (pc := 54) o dX9_span_54 rfl ?_
                refine g_ic_lt (pc := 56) o 65 dX9_span_56 (by decide) (fun c56 => ?_) (fun c56 => ?_)
                · skip
                  have k3 := mt (lt0 f).mpr c43
                  have k4 := mt Int32.lt_iff_toInt_lt.mpr c49
                  have k5 := (ltN t 24 (by decide)).mp c56
                  refine g_iload_n (pc := 65) o dX9_span_65 rfl ?_
                  refine g_if_ne (pc := 66) o 86 dX9_span_66 (by decide) (fun c66 => ?_) (fun c66 => ?_)
                  · skip
                    exact absurd rfl c66
                  · skip
                    refine g_aload_n (pc := 69) o dX9_span_69 rfl ?_
                    refine g_getR (pc := 70) o 0 rfl rfl rfl inX9 (by decide) lf_X9_10 dX9_span_70 ?_
                    refine g_getR (pc := 73) o 2 rfl rfl rfl inX0 (by decide) lf_X9_137 dX9_span_73 ?_
                    refine g_iload_n (pc := 76) o dX9_span_76 rfl ?_
                    refine g_iload_n (pc := 77) o dX9_span_77 rfl ?_
                    refine g_iload (pc := 78) o dX9_span_78 rfl ?_
                    refine g_callVv (pc := 80) o (c_setHours u hu2 f t) mt_X7_setHours mv_X7_setHours lk_X9_153 rfl rfl rfl (by decide) rfl (Nat.le_of_ble_eq_true rfl) dX9_span_80 ?_
                    refine g_goto (pc := 83) o 100 dX9_span_83 (by decide) ?_
                    refine g_iconst (pc := 100) o dX9_span_100 1 rfl ?_
                    exact g_iret o ρ dX9_span_101 (Po.eq (eq ⟨by omega, by omega, by rw [if_pos (show nI 0 = 0 from rfl)]; omega⟩) (Po_s C (BR_set C.1 hu2 (by decide) f t) (offB_set (offB.rf h))))
                · skip
                  refine g_aload_n (pc := 59) o dX9_span_59 rfl ?_
                  refine g_iconst (pc := 60) o dX9_span_60 0 rfl ?_
                  refine g_callVi (pc := 61) o (c_finding 0 (by decide) h) mt_X9_finding mv_X9_finding lk_X9_58 rfl rfl rfl (by decide) rfl (Nat.le_of_ble_eq_true rfl) dX9_span_61 ?_
                  exact g_iret o ρ dX9_span_64 (Po.eq (if_neg (fun z => (by have := mt (ltN t 24 (by decide)).mpr c56; have := z.2.2.2.2; rw [if_pos (show nI 0 = 0 from rfl)] at this; omega))) (Po_fnd C (by decide)))
        · subst ew
          refine g_iload_n (pc := 29) o dX9_span_29 rfl ?_
          refine g_if_ne (pc := 30) o 38 dX9_span_30 (by decide) (fun c30 => ?_) (fun c30 => ?_)
          · skip
            refine g_bipush (pc := 38) o dX9_span_38 30 rfl ?_
            refine g_istore (pc := 40) o dX9_span_40 (by decide) ?_
            show ca_G Γ 6 _ _ [_, _, _, _, _, _] _
            refine g_iload_n (pc := 42) o dX9_span_42 rfl ?_
            refine g_if_lt (pc := 43) o 59 dX9_span_43 (by decide) (fun c43 => ?_) (fun c43 => ?_)
            · skip
              refine g_aload_n (pc := 59) o dX9_span_59 rfl ?_
              refine g_iconst (pc := 60) o dX9_span_60 0 rfl ?_
              refine g_callVi (pc := 61) o (c_finding 0 (by decide) h) mt_X9_finding mv_X9_finding lk_X9_58 rfl rfl rfl (by decide) rfl (Nat.le_of_ble_eq_true rfl) dX9_span_61 ?_
              exact g_iret o ρ dX9_span_64 (Po.eq (if_neg (fun z => (by have := (lt0 f).mp c43; have := z.2.2.1; omega))) (Po_fnd C (by decide)))
            · skip
              refine g_iload (pc := 46) o dX9_span_46 rfl ?_
              refine g_iload_n (pc := 48) o dX9_span_48 rfl ?_
              refine g_ic_lt (pc := 49) o 59 dX9_span_49 (by decide) (fun c49 => ?_) (fun c49 => ?_)
              · skip
                refine g_aload_n (pc := 59) o dX9_span_59 rfl ?_
                refine g_iconst (pc := 60) o dX9_span_60 0 rfl ?_
                refine g_callVi (pc := 61) o (c_finding 0 (by decide) h) mt_X9_finding mv_X9_finding lk_X9_58 rfl rfl rfl (by decide) rfl (Nat.le_of_ble_eq_true rfl) dX9_span_61 ?_
                exact g_iret o ρ dX9_span_64 (Po.eq (if_neg (fun z => (by have := Int32.lt_iff_toInt_lt.mp c49; have := z.2.2.2.1; omega))) (Po_fnd C (by decide)))
              · skip
                refine g_iload (pc := 52) o dX9_span_52 rfl ?_
                refine g_iload (pc := 54) o dX9_span_54 rfl ?_
                refine g_ic_lt (pc := 56) o 65 dX9_span_56 (by decide) (fun c56 => ?_) (fun c56 => ?_)
                · skip
                  have k3 := mt (lt0 f).mpr c43
                  have k4 := mt Int32.lt_iff_toInt_lt.mpr c49
                  have k5 := (ltN t 30 (by decide)).mp c56
                  refine g_iload_n (pc := 65) o dX9_span_65 rfl ?_
                  refine g_if_ne (pc := 66) o 86 dX9_span_66 (by decide) (fun c66 => ?_) (fun c66 => ?_)
                  · skip
                    refine g_aload_n (pc := 86) o dX9_span_86 rfl ?_
                    refine g_getR (pc := 87) o 0 rfl rfl rfl inX9 (by decide) lf_X9_10 dX9_span_87 ?_
                    refine g_getR (pc := 90) o 2 rfl rfl rfl inX0 (by decide) lf_X9_137 dX9_span_90 ?_
                    refine g_iload_n (pc := 93) o dX9_span_93 rfl ?_
                    refine g_iload_n (pc := 94) o dX9_span_94 rfl ?_
                    refine g_iload (pc := 95) o dX9_span_95 rfl ?_
                    refine g_callVv (pc := 97) o (c_setDays u hu2 f t) mt_X7_setDays mv_X7_setDays lk_X9_157 rfl rfl rfl (by decide) rfl (Nat.le_of_ble_eq_true rfl) dX9_span_97 ?_
                    refine g_iconst (pc := 100) o dX9_span_100 1 rfl ?_
                    exact g_iret o ρ dX9_span_101 (Po.eq (eq ⟨by omega, by omega, by rw [if_neg c30]; omega⟩) (Po_s C (BR_set C.1 hu2 (by decide) f t) (offB_set (offB.rf h))))
                  · skip
                    exact absurd c66 c30
                · skip
                  refine g_aload_n (pc := 59) o dX9_span_59 rfl ?_
                  refine g_iconst (pc := 60) o dX9_span_60 0 rfl ?_
                  refine g_callVi (pc := 61) o (c_finding 0 (by decide) h) mt_X9_finding mv_X9_finding lk_X9_58 rfl rfl rfl (by decide) rfl (Nat.le_of_ble_eq_true rfl) dX9_span_61 ?_
                  exact g_iret o ρ dX9_span_64 (Po.eq (if_neg (fun z => (by have := mt (ltN t 30 (by decide)).mpr c56; have := z.2.2.2.2; rw [if_neg c30] at this; omega))) (Po_fnd C (by decide)))
          · skip
            exact absurd c30 (by decide)
      · skip
        refine g_aload_n (pc := 23) o dX9_span_23 rfl ?_
        refine g_iconst (pc := 24) o dX9_span_24 0 rfl ?_
        refine g_callVi (pc := 25) o (c_finding 0 (by decide) h) mt_X9_finding mv_X9_finding lk_X9_58 rfl rfl rfl (by decide) rfl (Nat.le_of_ble_eq_true rfl) dX9_span_25 ?_
        exact g_iret o ρ dX9_span_28 (Po.eq (if_neg (fun z => (by have := mt (leN w 1 (by decide)).mpr c20; have := z.2.1.2; omega))) (Po_fnd C (by decide)))
theorem in_2 (x a : Int32) (b : Int64) : bI (a.toInt64 ≤ x.toInt64 ∧ x.toInt64 ≤ b) = bI (a.toInt ≤ x.toInt ∧ x.toInt ≤ b.toInt) := by
  unfold bI
  simp only [Int64.le_iff_toInt_le, Int32.toInt_toInt64]
theorem six (t w j v : Nat) : nI 190 + nI 7 * nI t + nI w + nI 2 * nI j + nI v = nI (190 + (t * 7 + (w + 2 * j + v))) := by rw [tix, pk_mul, nI_add, nI_add]; congr 1; omega
theorem six0 (t w j : Nat) : nI 190 + nI 7 * nI t + nI w + nI 2 * nI j = nI (190 + (t * 7 + (w + 2 * j))) := by rw [tix, pk_mul, nI_add]; congr 1; omega
set_option maxRecDepth 100000 in
set_option maxHeartbeats 400000 in
theorem mo_span {h : Mem} (I : Iv (absM h)) (a w f t : Int32) : Ct yX10_span cX10_span 5 (some .int) 2 46 [.ref 51, .int a, .int w, .int f, .int t] h (Pm h (op_span a w f t (absM h))) := by
  refine Ct.of (by decide) (Nat.le_of_ble_eq_true rfl) (fun Γ o ρ => ?_)
  show ca_G Γ 5 _ _ [_, _, _, _, _] _
  have ok : okT (h.1 52) := I.1.terms
  have d1 := in_rng w 0 1 (by decide)
  refine g_aload_n (pc := 0) o dX10_span_0 rfl ?_
  refine g_iload_n (pc := 1) o dX10_span_1 rfl ?_
  refine g_callVi (pc := 2) o (m_isTerm ok a) mt_X10_isTerm mv_X10_isTerm lk_X10_145 rfl rfl rfl (by decide) rfl (Nat.le_of_ble_eq_true rfl) dX10_span_2 ?_
  refine g_if_eq (pc := 5) o 64 dX10_span_5 (by decide) (fun c5 => ?_) (fun c5 => ?_)
  · skip
    refine g_aload_n (pc := 64) o dX10_span_64 rfl ?_
    refine g_ldc (pc := 65) o dX10_span_65 lc_X10_68 ?_
    refine g_callVi (pc := 67) o (m_finds 0 (by decide) h) mt_X10_finds mv_X10_finds lk_X10_86 rfl rfl rfl (by decide) rfl (Nat.le_of_ble_eq_true rfl) dX10_span_67 ?_
    exact g_iret o ρ dX10_span_70 (Pm.eq (if_neg (fun z => bI_0.mp c5 z.1)) (Pm_fnd rfl (kC.rf h) (by decide)))
  · skip
    refine g_iload_n (pc := 8) o dX10_span_8 rfl ?_
    refine g_i2l (pc := 9) o dX10_span_9 ?_
    refine g_lconst (pc := 10) o dX10_span_10 0 rfl ?_
    refine g_lconst (pc := 11) o dX10_span_11 1 rfl ?_
    refine g_callSi (pc := 12) o (m_in w.toInt64 0 1 h) mt_X10_in ms_X10_in lk_X10_71 rfl (by decide) rfl (Nat.le_of_ble_eq_true rfl) dX10_span_12 ?_
    refine g_if_eq (pc := 15) o 64 dX10_span_15 (by decide) (fun c15 => ?_) (fun c15 => ?_)
    · skip
      refine g_aload_n (pc := 64) o dX10_span_64 rfl ?_
      refine g_ldc (pc := 65) o dX10_span_65 lc_X10_68 ?_
      refine g_callVi (pc := 67) o (m_finds 0 (by decide) h) mt_X10_finds mv_X10_finds lk_X10_86 rfl rfl rfl (by decide) rfl (Nat.le_of_ble_eq_true rfl) dX10_span_67 ?_
      exact g_iret o ρ dX10_span_70 (Pm.eq (if_neg (fun z => (by rw [d1] at c15; exact bI_0.mp c15 z.2.1))) (Pm_fnd rfl (kC.rf h) (by decide)))
    · skip
      rw [d1] at c15
      have hT := bI_n0.mp c5
      have hw := bI_n0.mp c15
      obtain ⟨j, hj, ew, ej⟩ := n_of (x := w) (b := 1) hw (by decide)
      obtain ⟨u, hu, hu2, rfl, eu⟩ := t_of ok hT
      have eq : spOK w f t → op_span (nI u) w f t (absM h) = (1, sf (absM h) 0 (setS (h.1 52) u (3 + 2 * j) f t)) := fun z => (show op_span (nI u) w f t (absM h) = (1, sf (absM h) 0 (setS (h.1 52) (ca_n (nI u)) (3 + 2 * ca_n w) f t)) from if_pos ⟨hT, hw, z⟩).trans (by rw [eu, ej])
      rcases (by omega : j = 0 ∨ j = 1) with rfl | rfl
      · subst ew
        have q1 := in_rng f 0 23 (by decide)
        have q2 := in_2 t f 23
        refine g_iload_n (pc := 18) o dX10_span_18 rfl ?_
        refine g_i2l (pc := 19) o dX10_span_19 ?_
        refine g_lconst (pc := 20) o dX10_span_20 0 rfl ?_
        refine g_iload_n (pc := 21) o dX10_span_21 rfl ?_
        refine g_if_ne (pc := 22) o 31 dX10_span_22 (by decide) (fun c22 => ?_) (fun c22 => ?_)
        · skip
          exact absurd rfl c22
        · skip
          refine g_ldc2 (pc := 25) o dX10_span_25 lc_X10_151 ?_
          refine g_goto (pc := 28) o 34 dX10_span_28 (by decide) ?_
          refine g_callSi (pc := 34) o (m_in f.toInt64 0 23 h) mt_X10_in ms_X10_in lk_X10_71 rfl (by decide) rfl (Nat.le_of_ble_eq_true rfl) dX10_span_34 ?_
          refine g_if_eq (pc := 37) o 64 dX10_span_37 (by decide) (fun c37 => ?_) (fun c37 => ?_)
          · skip
            refine g_aload_n (pc := 64) o dX10_span_64 rfl ?_
            refine g_ldc (pc := 65) o dX10_span_65 lc_X10_68 ?_
            refine g_callVi (pc := 67) o (m_finds 0 (by decide) h) mt_X10_finds mv_X10_finds lk_X10_86 rfl rfl rfl (by decide) rfl (Nat.le_of_ble_eq_true rfl) dX10_span_67 ?_
            exact g_iret o ρ dX10_span_70 (Pm.eq (if_neg (fun z => (by rw [q1] at c37; exact bI_0.mp c37 ⟨z.2.2.1, by have := z.2.2.2.1; have := z.2.2.2.2; rw [if_pos (show nI 0 = 0 from rfl)] at this; exact Int.le_trans ‹_› this⟩))) (Pm_fnd rfl (kC.rf h) (by decide)))
          · skip
            rw [q1] at c37
            have k1 := bI_n0.mp c37
            refine g_iload (pc := 40) o dX10_span_40 rfl ?_
            refine g_i2l (pc := 42) o dX10_span_42 ?_
            refine g_iload_n (pc := 43) o dX10_span_43 rfl ?_
            refine g_i2l (pc := 44) o dX10_span_44 ?_
            refine g_iload_n (pc := 45) o dX10_span_45 rfl ?_
            refine g_if_ne (pc := 46) o 55 dX10_span_46 (by decide) (fun c46 => ?_) (fun c46 => ?_)
            · skip
              exact absurd rfl c46
            · skip
              refine g_ldc2 (pc := 49) o dX10_span_49 lc_X10_151 ?_
              refine g_goto (pc := 52) o 58 dX10_span_52 (by decide) ?_
              refine g_callSi (pc := 58) o (m_in t.toInt64 f.toInt64 23 h) mt_X10_in ms_X10_in lk_X10_71 rfl (by decide) rfl (Nat.le_of_ble_eq_true rfl) dX10_span_58 ?_
              refine g_if_ne (pc := 61) o 71 dX10_span_61 (by decide) (fun c61 => ?_) (fun c61 => ?_)
              · skip
                rw [q2] at c61
                have k2 := bI_n0.mp c61
                refine g_aload_n (pc := 71) o dX10_span_71 rfl ?_
                refine g_getR (pc := 72) o 0 rfl rfl rfl inX10 (by decide) lf_X10_7 dX10_span_72 ?_
                refine g_sipush (pc := 75) o dX10_span_75 190 rfl ?_
                refine g_bipush (pc := 78) o dX10_span_78 7 rfl ?_
                refine g_iload_n (pc := 80) o dX10_span_80 rfl ?_
                refine g_imul (pc := 81) o dX10_span_81 ?_
                refine g_iadd (pc := 82) o dX10_span_82 ?_
                refine g_iconst (pc := 83) o dX10_span_83 3 rfl ?_
                refine g_iadd (pc := 84) o dX10_span_84 ?_
                refine g_iconst (pc := 85) o dX10_span_85 2 rfl ?_
                refine g_iload_n (pc := 86) o dX10_span_86 rfl ?_
                refine g_imul (pc := 87) o dX10_span_87 ?_
                refine g_iadd (pc := 88) o dX10_span_88 ?_
                refine g_iload_n (pc := 89) o dX10_span_89 rfl ?_
                refine n_iast (pc := 90) o (190 + (u * 7 + (3 + 2 * 0))) (six0 u 3 0) rfl ((by omega)) (by decide) dX10_span_90 ?_
                refine g_aload_n (pc := 91) o dX10_span_91 rfl ?_
                refine g_getR (pc := 92) o 0 rfl rfl rfl inX10 (by decide) lf_X10_7 dX10_span_92 ?_
                refine g_sipush (pc := 95) o dX10_span_95 190 rfl ?_
                refine g_bipush (pc := 98) o dX10_span_98 7 rfl ?_
                refine g_iload_n (pc := 100) o dX10_span_100 rfl ?_
                refine g_imul (pc := 101) o dX10_span_101 ?_
                refine g_iadd (pc := 102) o dX10_span_102 ?_
                refine g_iconst (pc := 103) o dX10_span_103 3 rfl ?_
                refine g_iadd (pc := 104) o dX10_span_104 ?_
                refine g_iconst (pc := 105) o dX10_span_105 2 rfl ?_
                refine g_iload_n (pc := 106) o dX10_span_106 rfl ?_
                refine g_imul (pc := 107) o dX10_span_107 ?_
                refine g_iadd (pc := 108) o dX10_span_108 ?_
                refine g_iconst (pc := 109) o dX10_span_109 1 rfl ?_
                refine g_iadd (pc := 110) o dX10_span_110 ?_
                refine g_iload (pc := 111) o dX10_span_111 rfl ?_
                refine n_iast (pc := 113) o (190 + (u * 7 + (3 + 2 * 0 + 1))) (six u 3 0 1) rfl ((by omega)) (by decide) dX10_span_113 ?_
                refine g_iconst (pc := 114) o dX10_span_114 1 rfl ?_
                exact g_iret o ρ dX10_span_115 (Pm.eq (eq ⟨k1.1, k2.1, by rw [if_pos (show nI 0 = 0 from rfl)]; exact k2.2⟩) (Pm_s rfl (offM.rf h).mw.mw))
              · skip
                refine g_aload_n (pc := 64) o dX10_span_64 rfl ?_
                refine g_ldc (pc := 65) o dX10_span_65 lc_X10_68 ?_
                refine g_callVi (pc := 67) o (m_finds 0 (by decide) h) mt_X10_finds mv_X10_finds lk_X10_86 rfl rfl rfl (by decide) rfl (Nat.le_of_ble_eq_true rfl) dX10_span_67 ?_
                exact g_iret o ρ dX10_span_70 (Pm.eq (if_neg (fun z => (by rw [q2] at c61; exact bI_0.mp c61 ⟨z.2.2.2.1, by have := z.2.2.2.2; rw [if_pos (show nI 0 = 0 from rfl)] at this; exact this⟩))) (Pm_fnd rfl (kC.rf h) (by decide)))
      · subst ew
        have q1 := in_rng f 0 29 (by decide)
        have q2 := in_2 t f 29
        refine g_iload_n (pc := 18) o dX10_span_18 rfl ?_
        refine g_i2l (pc := 19) o dX10_span_19 ?_
        refine g_lconst (pc := 20) o dX10_span_20 0 rfl ?_
        refine g_iload_n (pc := 21) o dX10_span_21 rfl ?_
        refine g_if_ne (pc := 22) o 31 dX10_span_22 (by decide) (fun c22 => ?_) (fun c22 => ?_)
        · skip
          refine g_ldc2 (pc := 31) o dX10_span_31 lc_X10_77 ?_
          refine g_callSi (pc := 34) o (m_in f.toInt64 0 29 h) mt_X10_in ms_X10_in lk_X10_71 rfl (by decide) rfl (Nat.le_of_ble_eq_true rfl) dX10_span_34 ?_
          refine g_if_eq (pc := 37) o 64 dX10_span_37 (by decide) (fun c37 => ?_) (fun c37 => ?_)
          · skip
            refine g_aload_n (pc := 64) o dX10_span_64 rfl ?_
            refine g_ldc (pc := 65) o dX10_span_65 lc_X10_68 ?_
            refine g_callVi (pc := 67) o (m_finds 0 (by decide) h) mt_X10_finds mv_X10_finds lk_X10_86 rfl rfl rfl (by decide) rfl (Nat.le_of_ble_eq_true rfl) dX10_span_67 ?_
            exact g_iret o ρ dX10_span_70 (Pm.eq (if_neg (fun z => (by rw [q1] at c37; exact bI_0.mp c37 ⟨z.2.2.1, by have := z.2.2.2.1; have := z.2.2.2.2; rw [if_neg c22] at this; exact Int.le_trans ‹_› this⟩))) (Pm_fnd rfl (kC.rf h) (by decide)))
          · skip
            rw [q1] at c37
            have k1 := bI_n0.mp c37
            refine g_iload (pc := 40) o dX10_span_40 rfl ?_
            refine g_i2l (pc := 42) o dX10_span_42 ?_
            refine g_iload_n (pc := 43) o dX10_span_43 rfl ?_
            refine g_i2l (pc := 44) o dX10_span_44 ?_
            refine g_iload_n (pc := 45) o dX10_span_45 rfl ?_
            refine g_if_ne (pc := 46) o 55 dX10_span_46 (by decide) (fun c46 => ?_) (fun c46 => ?_)
            · skip
              refine g_ldc2 (pc := 55) o dX10_span_55 lc_X10_77 ?_
              refine g_callSi (pc := 58) o (m_in t.toInt64 f.toInt64 29 h) mt_X10_in ms_X10_in lk_X10_71 rfl (by decide) rfl (Nat.le_of_ble_eq_true rfl) dX10_span_58 ?_
              refine g_if_ne (pc := 61) o 71 dX10_span_61 (by decide) (fun c61 => ?_) (fun c61 => ?_)
              · skip
                rw [q2] at c61
                have k2 := bI_n0.mp c61
                refine g_aload_n (pc := 71) o dX10_span_71 rfl ?_
                refine g_getR (pc := 72) o 0 rfl rfl rfl inX10 (by decide) lf_X10_7 dX10_span_72 ?_
                refine g_sipush (pc := 75) o dX10_span_75 190 rfl ?_
                refine g_bipush (pc := 78) o dX10_span_78 7 rfl ?_
                refine g_iload_n (pc := 80) o dX10_span_80 rfl ?_
                refine g_imul (pc := 81) o dX10_span_81 ?_
                refine g_iadd (pc := 82) o dX10_span_82 ?_
                refine g_iconst (pc := 83) o dX10_span_83 3 rfl ?_
                refine g_iadd (pc := 84) o dX10_span_84 ?_
                refine g_iconst (pc := 85) o dX10_span_85 2 rfl ?_
                refine g_iload_n (pc := 86) o dX10_span_86 rfl ?_
                refine g_imul (pc := 87) o dX10_span_87 ?_
                refine g_iadd (pc := 88) o dX10_span_88 ?_
                refine g_iload_n (pc := 89) o dX10_span_89 rfl ?_
                refine n_iast (pc := 90) o (190 + (u * 7 + (3 + 2 * 1))) (six0 u 3 1) rfl ((by omega)) (by decide) dX10_span_90 ?_
                refine g_aload_n (pc := 91) o dX10_span_91 rfl ?_
                refine g_getR (pc := 92) o 0 rfl rfl rfl inX10 (by decide) lf_X10_7 dX10_span_92 ?_
                refine g_sipush (pc := 95) o dX10_span_95 190 rfl ?_
                refine g_bipush (pc := 98) o dX10_span_98 7 rfl ?_
                refine g_iload_n (pc := 100) o dX10_span_100 rfl ?_
                refine g_imul (pc := 101) o dX10_span_101 ?_
                refine g_iadd (pc := 102) o dX10_span_102 ?_
                refine g_iconst (pc := 103) o dX10_span_103 3 rfl ?_
                refine g_iadd (pc := 104) o dX10_span_104 ?_
                refine g_iconst (pc := 105) o dX10_span_105 2 rfl ?_
                refine g_iload_n (pc := 106) o dX10_span_106 rfl ?_
                refine g_imul (pc := 107) o dX10_span_107 ?_
                refine g_iadd (pc := 108) o dX10_span_108 ?_
                refine g_iconst (pc := 109) o dX10_span_109 1 rfl ?_
                refine g_iadd (pc := 110) o dX10_span_110 ?_
                refine g_iload (pc := 111) o dX10_span_111 rfl ?_
                refine n_iast (pc := 113) o (190 + (u * 7 + (3 + 2 * 1 + 1))) (six u 3 1 1) rfl ((by omega)) (by decide) dX10_span_113 ?_
                refine g_iconst (pc := 114) o dX10_span_114 1 rfl ?_
                exact g_iret o ρ dX10_span_115 (Pm.eq (eq ⟨k1.1, k2.1, by rw [if_neg c22]; exact k2.2⟩) (Pm_s rfl (offM.rf h).mw.mw))
              · skip
                refine g_aload_n (pc := 64) o dX10_span_64 rfl ?_
                refine g_ldc (pc := 65) o dX10_span_65 lc_X10_68 ?_
                refine g_callVi (pc := 67) o (m_finds 0 (by decide) h) mt_X10_finds mv_X10_finds lk_X10_86 rfl rfl rfl (by decide) rfl (Nat.le_of_ble_eq_true rfl) dX10_span_67 ?_
                exact g_iret o ρ dX10_span_70 (Pm.eq (if_neg (fun z => (by rw [q2] at c61; exact bI_0.mp c61 ⟨z.2.2.2.1, by have := z.2.2.2.2; rw [if_neg c22] at this; exact this⟩))) (Pm_fnd rfl (kC.rf h) (by decide)))
            · skip
              exact absurd c46 c22
        · skip
          exact absurd c22 (by decide)
def chgS (s : Nat → Int32) (t n : Nat) (d q : Int32) : Nat → Int32 := setS (setS (setS (newS s n (tmF s t 0) (tmF s t 1) q) n 3 (tmF s t 3) (tmF s t 4)) n 5 d (tmF s t 6)) t 5 (tmF s t 5) (d - 1)
def op_change (a d q : Int32) (σ : Sg) : Int32 × Sg := if isT (σ 0) a ∧ rng d 1 29 ∧ rng q 0 7 then (if tmF (σ 0) (ca_n a) 5 < d ∧ d ≤ tmF (σ 0) (ca_n a) 6 then (if rooF (σ 0) (tmF (σ 0) (ca_n a) 1) then (nI (nT (σ 0)), sf σ 0 (chgS (σ 0) (ca_n a) (nT (σ 0)) d q)) else fnd σ 1) else fnd σ 4) else fnd σ 0
theorem new_tm {s : Nat → Int32} {n t w : Nat} {k p q : Int32} (ht : t < n) (hw : w < 7) : tmF (newS s n k p q) t w = tmF s t w := by
  unfold tmF newS setS
  rw [pk_un (by omega), pk_un (by omega), pk_un (by omega), pk_un (by omega), pk_un (by omega), pk_un (by omega), pk_un (by omega), pk_un (by omega)]
set_option maxRecDepth 100000 in
set_option maxHeartbeats 400000 in
theorem co_change {h : Mem} {σ : Sg} (C : CR h σ) (I : Iv σ) (a d q : Int32) : Ct yX9_change cX9_change 9 (some .int) 3 66 [.ref 0, .int a, .int d, .int q] h (Po h (op_change a d q σ)) := by
  refine Ct.of (by decide) (Nat.le_of_ble_eq_true rfl) (fun Γ o ρ => ?_)
  show ca_G Γ 9 _ _ [_, _, _, _, _, _, _, _, _] _
  have ok := I.1.terms
  refine g_aload_n (pc := 0) o dX9_change_0 rfl ?_
  refine g_getR (pc := 1) o 0 rfl rfl rfl inX9 (by decide) lf_X9_10 dX9_change_1 ?_
  refine g_getR (pc := 4) o 2 rfl rfl rfl inX0 (by decide) lf_X9_137 dX9_change_4 ?_
  refine g_astore (pc := 7) o dX9_change_7 (by decide) ?_
  show ca_G Γ 9 _ _ [_, _, _, _, _, _, _, _, _] _
  refine g_aload (pc := 9) o dX9_change_9 rfl ?_
  refine g_iload_n (pc := 11) o dX9_change_11 rfl ?_
  refine g_callVi (pc := 12) o (c_isTerm C.1 a) mt_X7_isTerm mv_X7_isTerm lk_X9_146 rfl rfl rfl (by decide) rfl (Nat.le_of_ble_eq_true rfl) dX9_change_12 ?_
  refine g_if_eq (pc := 15) o 36 dX9_change_15 (by decide) (fun c15 => ?_) (fun c15 => ?_)
  · skip
    refine g_aload_n (pc := 36) o dX9_change_36 rfl ?_
    refine g_iconst (pc := 37) o dX9_change_37 0 rfl ?_
    refine g_callVi (pc := 38) o (c_finding 0 (by decide) h) mt_X9_finding mv_X9_finding lk_X9_58 rfl rfl rfl (by decide) rfl (Nat.le_of_ble_eq_true rfl) dX9_change_38 ?_
    exact g_iret o ρ dX9_change_41 (Po.eq (if_neg (fun z => bI_0.mp c15 z.1)) (Po_fnd C (by decide)))
  · skip
    refine g_iload_n (pc := 18) o dX9_change_18 rfl ?_
    refine g_iconst (pc := 19) o dX9_change_19 1 rfl ?_
    refine g_ic_lt (pc := 20) o 36 dX9_change_20 (by decide) (fun c20 => ?_) (fun c20 => ?_)
    · skip
      refine g_aload_n (pc := 36) o dX9_change_36 rfl ?_
      refine g_iconst (pc := 37) o dX9_change_37 0 rfl ?_
      refine g_callVi (pc := 38) o (c_finding 0 (by decide) h) mt_X9_finding mv_X9_finding lk_X9_58 rfl rfl rfl (by decide) rfl (Nat.le_of_ble_eq_true rfl) dX9_change_38 ?_
      exact g_iret o ρ dX9_change_41 (Po.eq (if_neg (fun z => (by have := (ltN d 1 (by decide)).mp c20; have := z.2.1.1; omega))) (Po_fnd C (by decide)))
    · skip
      refine g_iload_n (pc := 23) o dX9_change_23 rfl ?_
      refine g_bipush (pc := 24) o dX9_change_24 30 rfl ?_
      refine g_ic_ge (pc := 26) o 36 dX9_change_26 (by decide) (fun c26 => ?_) (fun c26 => ?_)
      · skip
        refine g_aload_n (pc := 36) o dX9_change_36 rfl ?_
        refine g_iconst (pc := 37) o dX9_change_37 0 rfl ?_
        refine g_callVi (pc := 38) o (c_finding 0 (by decide) h) mt_X9_finding mv_X9_finding lk_X9_58 rfl rfl rfl (by decide) rfl (Nat.le_of_ble_eq_true rfl) dX9_change_38 ?_
        exact g_iret o ρ dX9_change_41 (Po.eq (if_neg (fun z => (by have := (geN d 30 (by decide)).mp c26; have := z.2.1.2; omega))) (Po_fnd C (by decide)))
      · skip
        refine g_iload_n (pc := 29) o dX9_change_29 rfl ?_
        refine g_callSi (pc := 30) o (c_isPlace q h) mt_X9_isPlace ms_X9_isPlace lk_X9_54 rfl (by decide) rfl (Nat.le_of_ble_eq_true rfl) dX9_change_30 ?_
        refine g_if_ne (pc := 33) o 42 dX9_change_33 (by decide) (fun c33 => ?_) (fun c33 => ?_)
        · skip
          have k1 := mt (ltN d 1 (by decide)).mpr c20
          have k2 := mt (geN d 30 (by decide)).mpr c26
          have hT := bI_n0.mp c15
          have eq : op_change a d q σ = if tmF (σ 0) (ca_n a) 5 < d ∧ d ≤ tmF (σ 0) (ca_n a) 6 then (if rooF (σ 0) (tmF (σ 0) (ca_n a) 1) then (nI (nT (σ 0)), sf σ 0 (chgS (σ 0) (ca_n a) (nT (σ 0)) d q)) else fnd σ 1) else fnd σ 4 := if_pos ⟨hT, ⟨by omega, by omega⟩, bI_n0.mp c33⟩
          rw [eq] at ρ
          obtain ⟨t, ht, ht2, rfl, et⟩ := t_of ok hT
          rw [et] at ρ
          clear eq
          refine g_aload (pc := 42) o dX9_change_42 rfl ?_
          refine g_iload_n (pc := 44) o dX9_change_44 rfl ?_
          refine g_iconst (pc := 45) o dX9_change_45 5 rfl ?_
          refine g_callVi (pc := 46) o (c_tf C.1 t 5 ht2 (by decide)) mt_X7_field mv_X7_field lk_X9_152 rfl rfl rfl (by decide) rfl (Nat.le_of_ble_eq_true rfl) dX9_change_46 ?_
          refine g_istore (pc := 49) o dX9_change_49 (by decide) ?_
          show ca_G Γ 9 _ _ [_, _, _, _, _, _, _, _, _] _
          refine g_aload (pc := 51) o dX9_change_51 rfl ?_
          refine g_iload_n (pc := 53) o dX9_change_53 rfl ?_
          refine g_bipush (pc := 54) o dX9_change_54 6 rfl ?_
          refine g_callVi (pc := 56) o (c_tf C.1 t 6 ht2 (by decide)) mt_X7_field mv_X7_field lk_X9_152 rfl rfl rfl (by decide) rfl (Nat.le_of_ble_eq_true rfl) dX9_change_56 ?_
          refine g_istore (pc := 59) o dX9_change_59 (by decide) ?_
          show ca_G Γ 9 _ _ [_, _, _, _, _, _, _, _, _] _
          refine g_iload_n (pc := 61) o dX9_change_61 rfl ?_
          refine g_iload (pc := 62) o dX9_change_62 rfl ?_
          refine g_ic_le (pc := 64) o 73 dX9_change_64 (by decide) (fun c64 => ?_) (fun c64 => ?_)
          · skip
            refine g_aload_n (pc := 73) o dX9_change_73 rfl ?_
            refine g_iconst (pc := 74) o dX9_change_74 4 rfl ?_
            refine g_callVi (pc := 75) o (c_finding 4 (by decide) h) mt_X9_finding mv_X9_finding lk_X9_58 rfl rfl rfl (by decide) rfl (Nat.le_of_ble_eq_true rfl) dX9_change_75 ?_
            exact g_iret o ρ dX9_change_78 (Po.eq (if_neg (fun z => Int32.not_le.mpr z.1 c64)) (Po_fnd C (by decide)))
          · skip
            refine g_iload_n (pc := 67) o dX9_change_67 rfl ?_
            refine g_iload (pc := 68) o dX9_change_68 rfl ?_
            refine g_ic_le (pc := 70) o 79 dX9_change_70 (by decide) (fun c70 => ?_) (fun c70 => ?_)
            · skip
              rw [if_pos ⟨Int32.not_le.mp c64, c70⟩] at ρ
              refine g_aload (pc := 79) o dX9_change_79 rfl ?_
              refine g_iload_n (pc := 81) o dX9_change_81 rfl ?_
              refine g_iconst (pc := 82) o dX9_change_82 1 rfl ?_
              refine g_callVi (pc := 83) o (c_tf C.1 t 1 ht2 (by decide)) mt_X7_field mv_X7_field lk_X9_152 rfl rfl rfl (by decide) rfl (Nat.le_of_ble_eq_true rfl) dX9_change_83 ?_
              refine g_istore (pc := 86) o dX9_change_86 (by decide) ?_
              show ca_G Γ 9 _ _ [_, _, _, _, _, _, _, _, _] _
              refine g_aload (pc := 88) o dX9_change_88 rfl ?_
              refine g_iload (pc := 90) o dX9_change_90 rfl ?_
              refine g_callVi (pc := 92) o (c_hasRoomFor C.1 ok (tmF (σ 0) t 1)) mt_X7_hasRoomFor mv_X7_hasRoomFor lk_X9_141 rfl rfl rfl (by decide) rfl (Nat.le_of_ble_eq_true rfl) dX9_change_92 ?_
              refine g_if_ne (pc := 95) o 104 dX9_change_95 (by decide) (fun c95 => ?_) (fun c95 => ?_)
              · skip
                have k3 := bI_n0.mp c95
                rw [if_pos k3] at ρ
                have hn : nT (σ 0) < 12 := by have := k3.1; have := ok.2.2; omega
                have B1 := BR_new C.1 hn (tmF (σ 0) t 0) (tmF (σ 0) t 1) q
                have g3 := c_tf B1 t 3 ht2 (by decide)
                rw [new_tm (s := σ 0) ht (by decide)] at g3
                have g4 := c_tf B1 t 4 ht2 (by decide)
                rw [new_tm (s := σ 0) ht (by decide)] at g4
                refine g_aload (pc := 104) o dX9_change_104 rfl ?_
                refine g_aload (pc := 106) o dX9_change_106 rfl ?_
                refine g_iload_n (pc := 108) o dX9_change_108 rfl ?_
                refine g_iconst (pc := 109) o dX9_change_109 0 rfl ?_
                refine g_callVi (pc := 110) o (c_tf C.1 t 0 ht2 (by decide)) mt_X7_field mv_X7_field lk_X9_152 rfl rfl rfl (by decide) rfl (Nat.le_of_ble_eq_true rfl) dX9_change_110 ?_
                refine g_iload (pc := 113) o dX9_change_113 rfl ?_
                refine g_iload_n (pc := 115) o dX9_change_115 rfl ?_
                refine g_callVi (pc := 116) o (c_tadd C.1 hn ok.2.1 (tmF (σ 0) t 0) (tmF (σ 0) t 1) q) mt_X7_add mv_X7_add lk_X9_144 rfl rfl rfl (by decide) rfl (Nat.le_of_ble_eq_true rfl) dX9_change_116 ?_
                refine g_istore (pc := 119) o dX9_change_119 (by decide) ?_
                show ca_G Γ 9 _ _ [_, _, _, _, _, _, _, _, _] _
                refine g_aload (pc := 121) o dX9_change_121 rfl ?_
                refine g_iload (pc := 123) o dX9_change_123 rfl ?_
                refine g_aload (pc := 125) o dX9_change_125 rfl ?_
                refine g_iload_n (pc := 127) o dX9_change_127 rfl ?_
                refine g_iconst (pc := 128) o dX9_change_128 3 rfl ?_
                refine g_callVi (pc := 129) o (g3) mt_X7_field mv_X7_field lk_X9_152 rfl rfl rfl (by decide) rfl (Nat.le_of_ble_eq_true rfl) dX9_change_129 ?_
                refine g_aload (pc := 132) o dX9_change_132 rfl ?_
                refine g_iload_n (pc := 134) o dX9_change_134 rfl ?_
                refine g_iconst (pc := 135) o dX9_change_135 4 rfl ?_
                refine g_callVi (pc := 136) o (g4) mt_X7_field mv_X7_field lk_X9_152 rfl rfl rfl (by decide) rfl (Nat.le_of_ble_eq_true rfl) dX9_change_136 ?_
                refine g_callVv (pc := 139) o (c_setHours (nT (σ 0)) hn (tmF (σ 0) t 3) (tmF (σ 0) t 4)) mt_X7_setHours mv_X7_setHours lk_X9_153 rfl rfl rfl (by decide) rfl (Nat.le_of_ble_eq_true rfl) dX9_change_139 ?_
                refine g_aload (pc := 142) o dX9_change_142 rfl ?_
                refine g_iload (pc := 144) o dX9_change_144 rfl ?_
                refine g_iload_n (pc := 146) o dX9_change_146 rfl ?_
                refine g_iload (pc := 147) o dX9_change_147 rfl ?_
                refine g_callVv (pc := 149) o (c_setDays (nT (σ 0)) hn d (tmF (σ 0) t 6)) mt_X7_setDays mv_X7_setDays lk_X9_157 rfl rfl rfl (by decide) rfl (Nat.le_of_ble_eq_true rfl) dX9_change_149 ?_
                refine g_aload (pc := 152) o dX9_change_152 rfl ?_
                refine g_iload_n (pc := 154) o dX9_change_154 rfl ?_
                refine g_iload (pc := 155) o dX9_change_155 rfl ?_
                refine g_iload_n (pc := 157) o dX9_change_157 rfl ?_
                refine g_iconst (pc := 158) o dX9_change_158 1 rfl ?_
                refine g_isub (pc := 159) o dX9_change_159 ?_
                refine g_callVv (pc := 160) o (c_setDays t ht2 (tmF (σ 0) t 5) (d - 1)) mt_X7_setDays mv_X7_setDays lk_X9_157 rfl rfl rfl (by decide) rfl (Nat.le_of_ble_eq_true rfl) dX9_change_160 ?_
                refine g_iload (pc := 163) o dX9_change_163 rfl ?_
                exact g_iret o ρ dX9_change_165 (Po_s C (BR_set (BR_set (BR_set B1 hn (by decide) _ _) hn (by decide) _ _) ht2 (by decide) _ _) (offB_set (offB_set (offB_set (offB_new (offB.rf h))))))
              · skip
                refine g_aload_n (pc := 98) o dX9_change_98 rfl ?_
                refine g_iconst (pc := 99) o dX9_change_99 1 rfl ?_
                refine g_callVi (pc := 100) o (c_finding 1 (by decide) h) mt_X9_finding mv_X9_finding lk_X9_58 rfl rfl rfl (by decide) rfl (Nat.le_of_ble_eq_true rfl) dX9_change_100 ?_
                exact g_iret o ρ dX9_change_103 (Po.eq (if_neg (fun z => bI_0.mp c95 z)) (Po_fnd C (by decide)))
            · skip
              refine g_aload_n (pc := 73) o dX9_change_73 rfl ?_
              refine g_iconst (pc := 74) o dX9_change_74 4 rfl ?_
              refine g_callVi (pc := 75) o (c_finding 4 (by decide) h) mt_X9_finding mv_X9_finding lk_X9_58 rfl rfl rfl (by decide) rfl (Nat.le_of_ble_eq_true rfl) dX9_change_75 ?_
              exact g_iret o ρ dX9_change_78 (Po.eq (if_neg (fun z => c70 z.2)) (Po_fnd C (by decide)))
        · skip
          refine g_aload_n (pc := 36) o dX9_change_36 rfl ?_
          refine g_iconst (pc := 37) o dX9_change_37 0 rfl ?_
          refine g_callVi (pc := 38) o (c_finding 0 (by decide) h) mt_X9_finding mv_X9_finding lk_X9_58 rfl rfl rfl (by decide) rfl (Nat.le_of_ble_eq_true rfl) dX9_change_38 ?_
          exact g_iret o ρ dX9_change_41 (Po.eq (if_neg (fun z => bI_0.mp c33 z.2.2)) (Po_fnd C (by decide)))
theorem upd_id (f : Nat → Int32) {i : Nat} {v : Int32} (e : f i = v) : upd f i v = f := by
  funext j
  unfold upd
  split
  · rename_i z; rw [z, e]
  · rfl
theorem chg_eq {s : Nat → Int32} {t n : Nat} {d q : Int32} (ht : t < n) : chgS s t n d q = upd (setS (setS (newS s n (tmF s t 0) (tmF s t 1) q) n 3 (tmF s t 3) (tmF s t 4)) n 5 d (tmF s t 6)) (190 + (t * 7 + 6)) (d - 1) := by
  have e : setS (setS (newS s n (tmF s t 0) (tmF s t 1) q) n 3 (tmF s t 3) (tmF s t 4)) n 5 d (tmF s t 6) (190 + (t * 7 + 5)) = tmF s t 5 := by
    rw [← new_tm (s := s) (n := n) (k := tmF s t 0) (p := tmF s t 1) (q := q) ht (w := 5) (by decide)]
    unfold setS
    rw [pk_un (by omega), pk_un (by omega), pk_un (by omega), pk_un (by omega)]
    rfl
  unfold chgS
  rw [setS, upd_id _ e]
def mset (h : Mem) (t w : Nat) (a b : Int32) : Mem := mw (mw h 52 (190 + (t * 7 + w)) a) 52 (190 + (t * 7 + (w + 1))) b
set_option maxRecDepth 100000 in
set_option maxHeartbeats 400000 in
theorem mo_change {h : Mem} (I : Iv (absM h)) (a d q : Int32) : Ct yX10_change cX10_change 6 (some .int) 3 66 [.ref 51, .int a, .int d, .int q] h (Pm h (op_change a d q (absM h))) := by
  refine Ct.of (by decide) (Nat.le_of_ble_eq_true rfl) (fun Γ o ρ => ?_)
  show ca_G Γ 6 _ _ [_, _, _, _, _, _] _
  have ok : okT (h.1 52) := I.1.terms
  have d1 := in_rng d 1 29 (by decide)
  refine g_aload_n (pc := 0) o dX10_change_0 rfl ?_
  refine g_iload_n (pc := 1) o dX10_change_1 rfl ?_
  refine g_callVi (pc := 2) o (m_isTerm ok a) mt_X10_isTerm mv_X10_isTerm lk_X10_145 rfl rfl rfl (by decide) rfl (Nat.le_of_ble_eq_true rfl) dX10_change_2 ?_
  refine g_if_eq (pc := 5) o 27 dX10_change_5 (by decide) (fun c5 => ?_) (fun c5 => ?_)
  · skip
    refine g_aload_n (pc := 27) o dX10_change_27 rfl ?_
    refine g_ldc (pc := 28) o dX10_change_28 lc_X10_68 ?_
    refine g_callVi (pc := 30) o (m_finds 0 (by decide) h) mt_X10_finds mv_X10_finds lk_X10_86 rfl rfl rfl (by decide) rfl (Nat.le_of_ble_eq_true rfl) dX10_change_30 ?_
    exact g_iret o ρ dX10_change_33 (Pm.eq (if_neg (fun z => bI_0.mp c5 z.1)) (Pm_fnd rfl (kC.rf h) (by decide)))
  · skip
    refine g_iload_n (pc := 8) o dX10_change_8 rfl ?_
    refine g_i2l (pc := 9) o dX10_change_9 ?_
    refine g_lconst (pc := 10) o dX10_change_10 1 rfl ?_
    refine g_ldc2 (pc := 11) o dX10_change_11 lc_X10_77 ?_
    refine g_callSi (pc := 14) o (m_in d.toInt64 1 29 h) mt_X10_in ms_X10_in lk_X10_71 rfl (by decide) rfl (Nat.le_of_ble_eq_true rfl) dX10_change_14 ?_
    refine g_if_eq (pc := 17) o 27 dX10_change_17 (by decide) (fun c17 => ?_) (fun c17 => ?_)
    · skip
      refine g_aload_n (pc := 27) o dX10_change_27 rfl ?_
      refine g_ldc (pc := 28) o dX10_change_28 lc_X10_68 ?_
      refine g_callVi (pc := 30) o (m_finds 0 (by decide) h) mt_X10_finds mv_X10_finds lk_X10_86 rfl rfl rfl (by decide) rfl (Nat.le_of_ble_eq_true rfl) dX10_change_30 ?_
      exact g_iret o ρ dX10_change_33 (Pm.eq (if_neg (fun z => (by rw [d1] at c17; exact bI_0.mp c17 z.2.1))) (Pm_fnd rfl (kC.rf h) (by decide)))
    · skip
      refine g_iload_n (pc := 20) o dX10_change_20 rfl ?_
      refine g_callSi (pc := 21) o (m_isPlace q h) mt_X10_isPlace ms_X10_isPlace lk_X10_82 rfl (by decide) rfl (Nat.le_of_ble_eq_true rfl) dX10_change_21 ?_
      refine g_if_ne (pc := 24) o 34 dX10_change_24 (by decide) (fun c24 => ?_) (fun c24 => ?_)
      · skip
        rw [d1] at c17
        have hT := bI_n0.mp c5
        have eq : op_change a d q (absM h) = if tmF (h.1 52) (ca_n a) 5 < d ∧ d ≤ tmF (h.1 52) (ca_n a) 6 then (if rooF (h.1 52) (tmF (h.1 52) (ca_n a) 1) then (nI (nT (h.1 52)), sf (absM h) 0 (chgS (h.1 52) (ca_n a) (nT (h.1 52)) d q)) else fnd (absM h) 1) else fnd (absM h) 4 := if_pos ⟨hT, bI_n0.mp c17, bI_n0.mp c24⟩
        rw [eq] at ρ
        obtain ⟨t, ht, ht2, rfl, et⟩ := t_of ok hT
        rw [et] at ρ
        clear eq
        refine g_iload_n (pc := 34) o dX10_change_34 rfl ?_
        refine g_aload_n (pc := 35) o dX10_change_35 rfl ?_
        refine g_iload_n (pc := 36) o dX10_change_36 rfl ?_
        refine g_iconst (pc := 37) o dX10_change_37 5 rfl ?_
        refine g_callVi (pc := 38) o (m_of t 5 ht2 (by decide)) mt_X10_of mv_X10_of lk_X10_131 rfl rfl rfl (by decide) rfl (Nat.le_of_ble_eq_true rfl) dX10_change_38 ?_
        refine g_ic_le (pc := 41) o 55 dX10_change_41 (by decide) (fun c41 => ?_) (fun c41 => ?_)
        · skip
          refine g_aload_n (pc := 55) o dX10_change_55 rfl ?_
          refine g_ldc (pc := 56) o dX10_change_56 lc_X10_153 ?_
          refine g_callVi (pc := 58) o (m_finds 4 (by decide) h) mt_X10_finds mv_X10_finds lk_X10_86 rfl rfl rfl (by decide) rfl (Nat.le_of_ble_eq_true rfl) dX10_change_58 ?_
          exact g_iret o ρ dX10_change_61 (Pm.eq (if_neg (fun z => Int32.not_le.mpr z.1 c41)) (Pm_fnd rfl (kC.rf h) (by decide)))
        · skip
          refine g_iload_n (pc := 44) o dX10_change_44 rfl ?_
          refine g_aload_n (pc := 45) o dX10_change_45 rfl ?_
          refine g_iload_n (pc := 46) o dX10_change_46 rfl ?_
          refine g_bipush (pc := 47) o dX10_change_47 6 rfl ?_
          refine g_callVi (pc := 49) o (m_of t 6 ht2 (by decide)) mt_X10_of mv_X10_of lk_X10_131 rfl rfl rfl (by decide) rfl (Nat.le_of_ble_eq_true rfl) dX10_change_49 ?_
          refine g_ic_le (pc := 52) o 62 dX10_change_52 (by decide) (fun c52 => ?_) (fun c52 => ?_)
          · skip
            rw [if_pos ⟨Int32.not_le.mp c41, c52⟩] at ρ
            refine g_aload_n (pc := 62) o dX10_change_62 rfl ?_
            refine g_aload_n (pc := 63) o dX10_change_63 rfl ?_
            refine g_iload_n (pc := 64) o dX10_change_64 rfl ?_
            refine g_iconst (pc := 65) o dX10_change_65 1 rfl ?_
            refine g_callVi (pc := 66) o (m_of t 1 ht2 (by decide)) mt_X10_of mv_X10_of lk_X10_131 rfl rfl rfl (by decide) rfl (Nat.le_of_ble_eq_true rfl) dX10_change_66 ?_
            refine g_callVi (pc := 69) o (m_isRoomFor ok (tmF (h.1 52) t 1)) mt_X10_isRoomFor mv_X10_isRoomFor lk_X10_139 rfl rfl rfl (by decide) rfl (Nat.le_of_ble_eq_true rfl) dX10_change_69 ?_
            refine g_if_ne (pc := 72) o 82 dX10_change_72 (by decide) (fun c72 => ?_) (fun c72 => ?_)
            · skip
              have k3 := bI_n0.mp c72
              rw [if_pos k3] at ρ
              have hn : nT (h.1 52) < 12 := by have := k3.1; have := ok.2.2; omega
              obtain ⟨n, hN⟩ : ∃ n, nT (h.1 52) = n := ⟨_, rfl⟩
              rw [hN] at ht hn ρ
              generalize hX : mnewM h n (tmF (h.1 52) t 0) (tmF (h.1 52) t 1) q = X
              have eX : X.1 52 = newS (h.1 52) n (tmF (h.1 52) t 0) (tmF (h.1 52) t 1) q := by rw [← hX]; exact mnew_s
              have oX : offM h X := by rw [← hX]; exact offM_new (offM.rf h)
              have f3 : tmF (X.1 52) t 3 = tmF (h.1 52) t 3 := by rw [eX]; exact new_tm ht (by decide)
              have f4 : ∀ v, tmF ((mw X 52 (190 + (n * 7 + 3)) v).1 52) t 4 = tmF (h.1 52) t 4 := fun v => by rw [mw_same]; unfold tmF; rw [pk_un (by omega)]; show tmF (X.1 52) t 4 = _; rw [eX]; exact new_tm ht (by decide)
              have f6 : ∀ u v w, tmF ((mw (mw (mw X 52 (190 + (n * 7 + 3)) u) 52 (190 + (n * 7 + 4)) v) 52 (190 + (n * 7 + 5)) w).1 52) t 6 = tmF (h.1 52) t 6 := fun u v w => by rw [mw_same, mw_same, mw_same]; unfold tmF; rw [pk_un (by omega), pk_un (by omega), pk_un (by omega)]; show tmF (X.1 52) t 6 = _; rw [eX]; exact new_tm ht (by decide)
              have g3 : Ct yX10_of cX10_of 3 (some .int) 0 0 [.ref 51, .int (nI t), .int (nI 3)] X (Ei (tmF (h.1 52) t 3) X) := by rw [← f3]; exact m_of t 3 ht2 (by decide)
              have g4 : ∀ v, Ct yX10_of cX10_of 3 (some .int) 0 0 [.ref 51, .int (nI t), .int (nI 4)] (mw X 52 (190 + (n * 7 + 3)) v) (Ei (tmF (h.1 52) t 4) (mw X 52 (190 + (n * 7 + 3)) v)) := fun v => by rw [← f4 v]; exact m_of t 4 ht2 (by decide)
              have g6 : ∀ u v w, Ct yX10_of cX10_of 3 (some .int) 0 0 [.ref 51, .int (nI t), .int (nI 6)] (mw (mw (mw X 52 (190 + (n * 7 + 3)) u) 52 (190 + (n * 7 + 4)) v) 52 (190 + (n * 7 + 5)) w) (Ei (tmF (h.1 52) t 6) (mw (mw (mw X 52 (190 + (n * 7 + 3)) u) 52 (190 + (n * 7 + 4)) v) 52 (190 + (n * 7 + 5)) w)) := fun u v w => by rw [← f6 u v w]; exact m_of t 6 ht2 (by decide)
              have nT1 : Ct yX10_newTerm cX10_newTerm 5 (some .int) 0 0 [.ref 51, .int (tmF (h.1 52) t 0), .int (tmF (h.1 52) t 1), .int q] h (Ei (nI n) X) := by rw [← hX]; exact m_newTerm hn (by rw [← hN]; exact ok.2.1) _ _ _
              refine g_aload_n (pc := 82) o dX10_change_82 rfl ?_
              refine g_aload_n (pc := 83) o dX10_change_83 rfl ?_
              refine g_iload_n (pc := 84) o dX10_change_84 rfl ?_
              refine g_iconst (pc := 85) o dX10_change_85 0 rfl ?_
              refine g_callVi (pc := 86) o (m_of t 0 ht2 (by decide)) mt_X10_of mv_X10_of lk_X10_131 rfl rfl rfl (by decide) rfl (Nat.le_of_ble_eq_true rfl) dX10_change_86 ?_
              refine g_aload_n (pc := 89) o dX10_change_89 rfl ?_
              refine g_iload_n (pc := 90) o dX10_change_90 rfl ?_
              refine g_iconst (pc := 91) o dX10_change_91 1 rfl ?_
              refine g_callVi (pc := 92) o (m_of t 1 ht2 (by decide)) mt_X10_of mv_X10_of lk_X10_131 rfl rfl rfl (by decide) rfl (Nat.le_of_ble_eq_true rfl) dX10_change_92 ?_
              refine g_iload_n (pc := 95) o dX10_change_95 rfl ?_
              refine g_callVi (pc := 96) o (nT1) mt_X10_newTerm mv_X10_newTerm lk_X10_142 rfl rfl rfl (by decide) rfl (Nat.le_of_ble_eq_true rfl) dX10_change_96 ?_
              refine g_istore (pc := 99) o dX10_change_99 (by decide) ?_
              show ca_G Γ 6 _ _ [_, _, _, _, _, _] _
              refine g_sipush (pc := 101) o dX10_change_101 190 rfl ?_
              refine g_bipush (pc := 104) o dX10_change_104 7 rfl ?_
              refine g_iload (pc := 106) o dX10_change_106 rfl ?_
              refine g_imul (pc := 108) o dX10_change_108 ?_
              refine g_iadd (pc := 109) o dX10_change_109 ?_
              refine g_istore (pc := 110) o dX10_change_110 (by decide) ?_
              show ca_G Γ 6 _ _ [_, _, _, _, _, _] _
              refine g_aload_n (pc := 112) o dX10_change_112 rfl ?_
              refine g_getR (pc := 113) o 0 rfl rfl rfl inX10 (by decide) lf_X10_7 dX10_change_113 ?_
              refine g_iload (pc := 116) o dX10_change_116 rfl ?_
              refine g_iconst (pc := 118) o dX10_change_118 3 rfl ?_
              refine g_iadd (pc := 119) o dX10_change_119 ?_
              refine g_aload_n (pc := 120) o dX10_change_120 rfl ?_
              refine g_iload_n (pc := 121) o dX10_change_121 rfl ?_
              refine g_iconst (pc := 122) o dX10_change_122 3 rfl ?_
              refine g_callVi (pc := 123) o (g3) mt_X10_of mv_X10_of lk_X10_131 rfl rfl rfl (by decide) rfl (Nat.le_of_ble_eq_true rfl) dX10_change_123 ?_
              refine n_iast (pc := 126) o (190 + (n * 7 + 3)) (tix n 3) rfl ((by omega)) (by decide) dX10_change_126 ?_
              refine g_aload_n (pc := 127) o dX10_change_127 rfl ?_
              refine g_getR (pc := 128) o 0 rfl rfl rfl inX10 (by decide) lf_X10_7 dX10_change_128 ?_
              refine g_iload (pc := 131) o dX10_change_131 rfl ?_
              refine g_iconst (pc := 133) o dX10_change_133 3 rfl ?_
              refine g_iadd (pc := 134) o dX10_change_134 ?_
              refine g_iconst (pc := 135) o dX10_change_135 1 rfl ?_
              refine g_iadd (pc := 136) o dX10_change_136 ?_
              refine g_aload_n (pc := 137) o dX10_change_137 rfl ?_
              refine g_iload_n (pc := 138) o dX10_change_138 rfl ?_
              refine g_iconst (pc := 139) o dX10_change_139 4 rfl ?_
              refine g_callVi (pc := 140) o (g4 _) mt_X10_of mv_X10_of lk_X10_131 rfl rfl rfl (by decide) rfl (Nat.le_of_ble_eq_true rfl) dX10_change_140 ?_
              refine n_iast (pc := 143) o (190 + (n * 7 + 4)) (tix2 n 3 1) rfl ((by omega)) (by decide) dX10_change_143 ?_
              refine g_aload_n (pc := 144) o dX10_change_144 rfl ?_
              refine g_getR (pc := 145) o 0 rfl rfl rfl inX10 (by decide) lf_X10_7 dX10_change_145 ?_
              refine g_iload (pc := 148) o dX10_change_148 rfl ?_
              refine g_iconst (pc := 150) o dX10_change_150 5 rfl ?_
              refine g_iadd (pc := 151) o dX10_change_151 ?_
              refine g_iload_n (pc := 152) o dX10_change_152 rfl ?_
              refine n_iast (pc := 153) o (190 + (n * 7 + 5)) (tix n 5) rfl ((by omega)) (by decide) dX10_change_153 ?_
              refine g_aload_n (pc := 154) o dX10_change_154 rfl ?_
              refine g_getR (pc := 155) o 0 rfl rfl rfl inX10 (by decide) lf_X10_7 dX10_change_155 ?_
              refine g_iload (pc := 158) o dX10_change_158 rfl ?_
              refine g_iconst (pc := 160) o dX10_change_160 5 rfl ?_
              refine g_iadd (pc := 161) o dX10_change_161 ?_
              refine g_iconst (pc := 162) o dX10_change_162 1 rfl ?_
              refine g_iadd (pc := 163) o dX10_change_163 ?_
              refine g_aload_n (pc := 164) o dX10_change_164 rfl ?_
              refine g_iload_n (pc := 165) o dX10_change_165 rfl ?_
              refine g_bipush (pc := 166) o dX10_change_166 6 rfl ?_
              refine g_callVi (pc := 168) o (g6 _ _ _) mt_X10_of mv_X10_of lk_X10_131 rfl rfl rfl (by decide) rfl (Nat.le_of_ble_eq_true rfl) dX10_change_168 ?_
              refine n_iast (pc := 171) o (190 + (n * 7 + 6)) (tix2 n 5 1) rfl ((by omega)) (by decide) dX10_change_171 ?_
              refine g_aload_n (pc := 172) o dX10_change_172 rfl ?_
              refine g_getR (pc := 173) o 0 rfl rfl rfl inX10 (by decide) lf_X10_7 dX10_change_173 ?_
              refine g_sipush (pc := 176) o dX10_change_176 190 rfl ?_
              refine g_bipush (pc := 179) o dX10_change_179 7 rfl ?_
              refine g_iload_n (pc := 181) o dX10_change_181 rfl ?_
              refine g_imul (pc := 182) o dX10_change_182 ?_
              refine g_iadd (pc := 183) o dX10_change_183 ?_
              refine g_iconst (pc := 184) o dX10_change_184 5 rfl ?_
              refine g_iadd (pc := 185) o dX10_change_185 ?_
              refine g_iconst (pc := 186) o dX10_change_186 1 rfl ?_
              refine g_iadd (pc := 187) o dX10_change_187 ?_
              refine g_iload_n (pc := 188) o dX10_change_188 rfl ?_
              refine g_iconst (pc := 189) o dX10_change_189 1 rfl ?_
              refine g_isub (pc := 190) o dX10_change_190 ?_
              refine n_iast (pc := 191) o (190 + (t * 7 + 6)) (tix2 t 5 1) rfl ((by omega)) (by decide) dX10_change_191 ?_
              refine g_iload (pc := 192) o dX10_change_192 rfl ?_
              exact g_iret o ρ dX10_change_194 (Pm_s (by rw [chg_eq ht, ← eX]; rfl) (offM.mw (offM.mw (offM.mw (offM.mw (offM.mw oX))))))

            · skip
              refine g_aload_n (pc := 75) o dX10_change_75 rfl ?_
              refine g_ldc (pc := 76) o dX10_change_76 lc_X10_104 ?_
              refine g_callVi (pc := 78) o (m_finds 1 (by decide) h) mt_X10_finds mv_X10_finds lk_X10_86 rfl rfl rfl (by decide) rfl (Nat.le_of_ble_eq_true rfl) dX10_change_78 ?_
              exact g_iret o ρ dX10_change_81 (Pm.eq (if_neg (fun z => bI_0.mp c72 z)) (Pm_fnd rfl (kC.rf h) (by decide)))
          · skip
            refine g_aload_n (pc := 55) o dX10_change_55 rfl ?_
            refine g_ldc (pc := 56) o dX10_change_56 lc_X10_153 ?_
            refine g_callVi (pc := 58) o (m_finds 4 (by decide) h) mt_X10_finds mv_X10_finds lk_X10_86 rfl rfl rfl (by decide) rfl (Nat.le_of_ble_eq_true rfl) dX10_change_58 ?_
            exact g_iret o ρ dX10_change_61 (Pm.eq (if_neg (fun z => c52 z.2)) (Pm_fnd rfl (kC.rf h) (by decide)))
      · skip
        refine g_aload_n (pc := 27) o dX10_change_27 rfl ?_
        refine g_ldc (pc := 28) o dX10_change_28 lc_X10_68 ?_
        refine g_callVi (pc := 30) o (m_finds 0 (by decide) h) mt_X10_finds mv_X10_finds lk_X10_86 rfl rfl rfl (by decide) rfl (Nat.le_of_ble_eq_true rfl) dX10_change_30 ?_
        exact g_iret o ρ dX10_change_33 (Pm.eq (if_neg (fun z => bI_0.mp c24 z.2.2)) (Pm_fnd rfl (kC.rf h) (by decide)))
