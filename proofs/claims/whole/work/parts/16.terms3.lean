/-! ===== term, termOf, span, turn, change, bad, inForce ===== -/
def offB (h h2 : Mem) : Prop := ∀ k, inB 1 k = false → h2.1 k = h.1 k
theorem offB.rf (h : Mem) : offB h h := fun _ _ => rfl
theorem offB.mw {h h2 : Mem} (H : offB h h2) {k i : Nat} {v : Int32} (hk : inB 1 k = true) : offB h (mw h2 k i v) := fun j hj => (mw_ne h2 i v (fun z => by subst z; rw [hk] at hj; cases hj)).trans (H j hj)
theorem offB.kM {h h2 : Mem} (H : offB h h2) : kM h h2 := fun k hk => H k (by
  simp only [inB, Bool.or_eq_false_iff, beq_eq_false_iff_ne, ne_eq]
  omega)
theorem Po_s {h h2 : Mem} {σ : Sg} {s2 : Nat → Int32} {r : Int32} (C : CR h σ) (B : BR h2 1 s2) (f : offB h h2) : Po h (r, sf σ 0 s2) (some (.int r)) h2 := Po.mk rfl (CR_s C B (fun k _ hk => f k hk)) f.kM
def offM (h h2 : Mem) : Prop := ∀ k, k ≠ 52 → h2.1 k = h.1 k
theorem offM.rf (h : Mem) : offM h h := fun _ _ => rfl
theorem offM.mw {h h2 : Mem} (H : offM h h2) {i : Nat} {v : Int32} : offM h (mw h2 52 i v) := fun j hj => (mw_ne h2 i v hj).trans (H j hj)
theorem offM.kC {h h2 : Mem} (H : offM h h2) : kC h h2 := fun k hk => H k (by omega)
theorem Pm_s {h h2 : Mem} {s2 : Nat → Int32} {r : Int32} (e : h2.1 52 = s2) (f : offM h h2) : Pm h (r, sf (absM h) 0 s2) (some (.int r)) h2 := Pm.mk rfl (by subst e; exact abs_s (fun k hk => f k (fun z => by subst z; revert hk; decide))) f.kC
theorem offM_new {h h1 : Mem} (H : offM h h1) {n : Nat} {k p q : Int32} : offM h (mnewM h1 n k p q) := fun c hc => (mnew_off hc).trans (H c hc)
theorem offB_new {h h1 : Mem} (H : offB h h1) {n : Nat} {k p q : Int32} : offB h (newM h1 n k p q) := fun c hc => (newM_off ⟨fun z => by subst z; revert hc; decide, fun z => by subst z; revert hc; decide⟩).trans (H c hc)
theorem offB_set {h h1 : Mem} (H : offB h h1) {t w : Nat} {a b : Int32} : offB h (setM h1 t w a b) := fun c hc => (setM_off (fun z => by subst z; revert hc; decide)).trans (H c hc)
abbrev isT (s : Nat → Int32) (x : Int32) : Prop := 0 ≤ x.toInt ∧ x.toInt < (s 189).toInt
theorem t_of {s : Nat → Int32} (ok : okT s) {x : Int32} (h : isT s x) : ∃ t : Nat, t < nT s ∧ t < 12 ∧ x = nI t ∧ ca_n x = t := by
  obtain ⟨o1, o2, o3⟩ := ok
  obtain ⟨h1, h2⟩ := h
  obtain ⟨j, hj, e, f⟩ := n_of (x := x) (b := 11) ⟨by omega, by omega⟩ (by decide)
  have : x.toInt = j := by rw [e, nI_toInt (by omega)]
  exact ⟨j, by omega, by omega, e, f⟩
def op_term (k p q : Int32) (σ : Sg) : Int32 × Sg := if rng k 0 6 ∧ rng p 0 5 ∧ rng q 0 7 then (if rooF (σ 0) p then (nI (nT (σ 0)), sf σ 0 (newS (σ 0) (nT (σ 0)) k p q)) else fnd σ 1) else fnd σ 0
def op_termOf (a b : Int32) (σ : Sg) : Int32 × Sg := if isT (σ 0) a ∧ rng b 0 7 then ((if b = 7 then nI (askT (σ 0) (ca_n a)) else tmF (σ 0) (ca_n a) (ca_n b)), σ) else fnd σ 0
def op_turn (a k : Int32) (σ : Sg) : Int32 × Sg := if isT (σ 0) a ∧ rng k 0 6 then (tmF (σ 0) (ca_n a) 0, sf σ 0 (upd (σ 0) (190 + (ca_n a * 7 + 0)) k)) else fnd σ 0
def op_bad (a : Int32) (σ : Sg) : Int32 × Sg := if isT (σ 0) a then (badF (σ 0) (ca_n a), σ) else fnd σ 0
def op_inForce (p d : Int32) (σ : Sg) : Int32 × Sg := if rng p 0 5 ∧ rng d 0 29 then (bndF (σ 0) p (ca_n d) (nT (σ 0)), σ) else fnd σ 0
set_option maxRecDepth 100000 in
set_option maxHeartbeats 400000 in
theorem co_term {h : Mem} {σ : Sg} (C : CR h σ) (I : Iv σ) (k p q : Int32) : Ct yX9_term cX9_term 4 (some .int) 3 66 [.ref 0, .int k, .int p, .int q] h (Po h (op_term k p q σ)) := by
  refine Ct.of (by decide) (Nat.le_of_ble_eq_true rfl) (fun Γ o ρ => ?_)
  have ok := I.1.terms
  refine g_iload_n (pc := 0) o dX9_term_0 rfl ?_
  refine g_callSi (pc := 1) o (c_isKind k h) mt_X7_isKind ms_X7_isKind lk_X9_132 rfl (by decide) rfl (Nat.le_of_ble_eq_true rfl) dX9_term_1 ?_
  refine g_if_eq (pc := 4) o 21 dX9_term_4 (by decide) (fun c4 => ?_) (fun c4 => ?_)
  · skip
    refine g_aload_n (pc := 21) o dX9_term_21 rfl ?_
    refine g_iconst (pc := 22) o dX9_term_22 0 rfl ?_
    refine g_callVi (pc := 23) o (c_finding 0 (by decide) h) mt_X9_finding mv_X9_finding lk_X9_58 rfl rfl rfl (by decide) rfl (Nat.le_of_ble_eq_true rfl) dX9_term_23 ?_
    exact g_iret o ρ dX9_term_26 (Po.eq (if_neg (fun z => bI_0.mp c4 z.1)) (Po_fnd C (by decide)))
  · skip
    refine g_iload_n (pc := 7) o dX9_term_7 rfl ?_
    refine g_callSi (pc := 8) o (c_isPerson p h) mt_X9_isPerson ms_X9_isPerson lk_X9_83 rfl (by decide) rfl (Nat.le_of_ble_eq_true rfl) dX9_term_8 ?_
    refine g_if_eq (pc := 11) o 21 dX9_term_11 (by decide) (fun c11 => ?_) (fun c11 => ?_)
    · skip
      refine g_aload_n (pc := 21) o dX9_term_21 rfl ?_
      refine g_iconst (pc := 22) o dX9_term_22 0 rfl ?_
      refine g_callVi (pc := 23) o (c_finding 0 (by decide) h) mt_X9_finding mv_X9_finding lk_X9_58 rfl rfl rfl (by decide) rfl (Nat.le_of_ble_eq_true rfl) dX9_term_23 ?_
      exact g_iret o ρ dX9_term_26 (Po.eq (if_neg (fun z => bI_0.mp c11 z.2.1)) (Po_fnd C (by decide)))
    · skip
      refine g_iload_n (pc := 14) o dX9_term_14 rfl ?_
      refine g_callSi (pc := 15) o (c_isPlace q h) mt_X9_isPlace ms_X9_isPlace lk_X9_54 rfl (by decide) rfl (Nat.le_of_ble_eq_true rfl) dX9_term_15 ?_
      refine g_if_ne (pc := 18) o 27 dX9_term_18 (by decide) (fun c18 => ?_) (fun c18 => ?_)
      · skip
        have eq : op_term k p q σ = if rooF (σ 0) p then (nI (nT (σ 0)), sf σ 0 (newS (σ 0) (nT (σ 0)) k p q)) else fnd σ 1 := if_pos ⟨bI_n0.mp c4, bI_n0.mp c11, bI_n0.mp c18⟩
        rw [eq] at ρ
        refine g_aload_n (pc := 27) o dX9_term_27 rfl ?_
        refine g_getR (pc := 28) o 0 rfl rfl rfl inX9 (by decide) lf_X9_10 dX9_term_28 ?_
        refine g_getR (pc := 31) o 2 rfl rfl rfl inX0 (by decide) lf_X9_137 dX9_term_31 ?_
        refine g_iload_n (pc := 34) o dX9_term_34 rfl ?_
        refine g_callVi (pc := 35) o (c_hasRoomFor C.1 ok p) mt_X7_hasRoomFor mv_X7_hasRoomFor lk_X9_141 rfl rfl rfl (by decide) rfl (Nat.le_of_ble_eq_true rfl) dX9_term_35 ?_
        refine g_if_ne (pc := 38) o 47 dX9_term_38 (by decide) (fun c38 => ?_) (fun c38 => ?_)
        · skip
          have k2 := bI_n0.mp c38
          have hn : nT (σ 0) < 12 := by have := k2.1; have := ok.2.2; omega
          refine g_aload_n (pc := 47) o dX9_term_47 rfl ?_
          refine g_getR (pc := 48) o 0 rfl rfl rfl inX9 (by decide) lf_X9_10 dX9_term_48 ?_
          refine g_getR (pc := 51) o 2 rfl rfl rfl inX0 (by decide) lf_X9_137 dX9_term_51 ?_
          refine g_iload_n (pc := 54) o dX9_term_54 rfl ?_
          refine g_iload_n (pc := 55) o dX9_term_55 rfl ?_
          refine g_iload_n (pc := 56) o dX9_term_56 rfl ?_
          refine g_callVi (pc := 57) o (c_tadd C.1 hn ok.2.1 k p q) mt_X7_add mv_X7_add lk_X9_144 rfl rfl rfl (by decide) rfl (Nat.le_of_ble_eq_true rfl) dX9_term_57 ?_
          exact g_iret o ρ dX9_term_60 (Po.eq (if_pos k2) (Po_s C (BR_new C.1 hn k p q) (offB_new (offB.rf h))))
        · skip
          refine g_aload_n (pc := 41) o dX9_term_41 rfl ?_
          refine g_iconst (pc := 42) o dX9_term_42 1 rfl ?_
          refine g_callVi (pc := 43) o (c_finding 1 (by decide) h) mt_X9_finding mv_X9_finding lk_X9_58 rfl rfl rfl (by decide) rfl (Nat.le_of_ble_eq_true rfl) dX9_term_43 ?_
          exact g_iret o ρ dX9_term_46 (Po.eq (if_neg (fun z => bI_0.mp c38 z)) (Po_fnd C (by decide)))
      · skip
        refine g_aload_n (pc := 21) o dX9_term_21 rfl ?_
        refine g_iconst (pc := 22) o dX9_term_22 0 rfl ?_
        refine g_callVi (pc := 23) o (c_finding 0 (by decide) h) mt_X9_finding mv_X9_finding lk_X9_58 rfl rfl rfl (by decide) rfl (Nat.le_of_ble_eq_true rfl) dX9_term_23 ?_
        exact g_iret o ρ dX9_term_26 (Po.eq (if_neg (fun z => bI_0.mp c18 z.2.2)) (Po_fnd C (by decide)))
set_option maxRecDepth 100000 in
set_option maxHeartbeats 400000 in
theorem mo_term {h : Mem} (I : Iv (absM h)) (k p q : Int32) : Ct yX10_term cX10_term 4 (some .int) 3 66 [.ref 51, .int k, .int p, .int q] h (Pm h (op_term k p q (absM h))) := by
  refine Ct.of (by decide) (Nat.le_of_ble_eq_true rfl) (fun Γ o ρ => ?_)
  have ok : okT (h.1 52) := I.1.terms
  have d1 := in_rng k 0 6 (by decide)
  refine g_iload_n (pc := 0) o dX10_term_0 rfl ?_
  refine g_i2l (pc := 1) o dX10_term_1 ?_
  refine g_lconst (pc := 2) o dX10_term_2 0 rfl ?_
  refine g_ldc2 (pc := 3) o dX10_term_3 lc_X10_137 ?_
  refine g_callSi (pc := 6) o (m_in k.toInt64 0 6 h) mt_X10_in ms_X10_in lk_X10_71 rfl (by decide) rfl (Nat.le_of_ble_eq_true rfl) dX10_term_6 ?_
  refine g_if_eq (pc := 9) o 26 dX10_term_9 (by decide) (fun c9 => ?_) (fun c9 => ?_)
  · skip
    refine g_aload_n (pc := 26) o dX10_term_26 rfl ?_
    refine g_ldc (pc := 27) o dX10_term_27 lc_X10_68 ?_
    refine g_callVi (pc := 29) o (m_finds 0 (by decide) h) mt_X10_finds mv_X10_finds lk_X10_86 rfl rfl rfl (by decide) rfl (Nat.le_of_ble_eq_true rfl) dX10_term_29 ?_
    exact g_iret o ρ dX10_term_32 (Pm.eq (if_neg (fun z => (by rw [d1] at c9; exact bI_0.mp c9 z.1))) (Pm_fnd rfl (kC.rf h) (by decide)))
  · skip
    refine g_iload_n (pc := 12) o dX10_term_12 rfl ?_
    refine g_callSi (pc := 13) o (m_isPerson p h) mt_X10_isPerson ms_X10_isPerson lk_X10_98 rfl (by decide) rfl (Nat.le_of_ble_eq_true rfl) dX10_term_13 ?_
    refine g_if_eq (pc := 16) o 26 dX10_term_16 (by decide) (fun c16 => ?_) (fun c16 => ?_)
    · skip
      refine g_aload_n (pc := 26) o dX10_term_26 rfl ?_
      refine g_ldc (pc := 27) o dX10_term_27 lc_X10_68 ?_
      refine g_callVi (pc := 29) o (m_finds 0 (by decide) h) mt_X10_finds mv_X10_finds lk_X10_86 rfl rfl rfl (by decide) rfl (Nat.le_of_ble_eq_true rfl) dX10_term_29 ?_
      exact g_iret o ρ dX10_term_32 (Pm.eq (if_neg (fun z => bI_0.mp c16 z.2.1)) (Pm_fnd rfl (kC.rf h) (by decide)))
    · skip
      refine g_iload_n (pc := 19) o dX10_term_19 rfl ?_
      refine g_callSi (pc := 20) o (m_isPlace q h) mt_X10_isPlace ms_X10_isPlace lk_X10_82 rfl (by decide) rfl (Nat.le_of_ble_eq_true rfl) dX10_term_20 ?_
      refine g_if_ne (pc := 23) o 33 dX10_term_23 (by decide) (fun c23 => ?_) (fun c23 => ?_)
      · skip
        rw [d1] at c9
        have eq : op_term k p q (absM h) = if rooF (h.1 52) p then (nI (nT (h.1 52)), sf (absM h) 0 (newS (h.1 52) (nT (h.1 52)) k p q)) else fnd (absM h) 1 := if_pos ⟨bI_n0.mp c9, bI_n0.mp c16, bI_n0.mp c23⟩
        rw [eq] at ρ
        refine g_aload_n (pc := 33) o dX10_term_33 rfl ?_
        refine g_iload_n (pc := 34) o dX10_term_34 rfl ?_
        refine g_callVi (pc := 35) o (m_isRoomFor ok p) mt_X10_isRoomFor mv_X10_isRoomFor lk_X10_139 rfl rfl rfl (by decide) rfl (Nat.le_of_ble_eq_true rfl) dX10_term_35 ?_
        refine g_if_eq (pc := 38) o 51 dX10_term_38 (by decide) (fun c38 => ?_) (fun c38 => ?_)
        · skip
          refine g_aload_n (pc := 51) o dX10_term_51 rfl ?_
          refine g_ldc (pc := 52) o dX10_term_52 lc_X10_104 ?_
          refine g_callVi (pc := 54) o (m_finds 1 (by decide) h) mt_X10_finds mv_X10_finds lk_X10_86 rfl rfl rfl (by decide) rfl (Nat.le_of_ble_eq_true rfl) dX10_term_54 ?_
          exact g_iret o ρ dX10_term_57 (Pm.eq (if_neg (fun z => bI_0.mp c38 z)) (Pm_fnd rfl (kC.rf h) (by decide)))
        · skip
          have k2 := bI_n0.mp c38
          have hn : nT (h.1 52) < 12 := by have := k2.1; have := ok.2.2; omega
          refine g_aload_n (pc := 41) o dX10_term_41 rfl ?_
          refine g_iload_n (pc := 42) o dX10_term_42 rfl ?_
          refine g_iload_n (pc := 43) o dX10_term_43 rfl ?_
          refine g_iload_n (pc := 44) o dX10_term_44 rfl ?_
          refine g_callVi (pc := 45) o (m_newTerm hn ok.2.1 k p q) mt_X10_newTerm mv_X10_newTerm lk_X10_142 rfl rfl rfl (by decide) rfl (Nat.le_of_ble_eq_true rfl) dX10_term_45 ?_
          refine g_goto (pc := 48) o 57 dX10_term_48 (by decide) ?_
          exact g_iret o ρ dX10_term_57 (Pm.eq (if_pos k2) (Pm_s mnew_s (offM_new (offM.rf h))))
      · skip
        refine g_aload_n (pc := 26) o dX10_term_26 rfl ?_
        refine g_ldc (pc := 27) o dX10_term_27 lc_X10_68 ?_
        refine g_callVi (pc := 29) o (m_finds 0 (by decide) h) mt_X10_finds mv_X10_finds lk_X10_86 rfl rfl rfl (by decide) rfl (Nat.le_of_ble_eq_true rfl) dX10_term_29 ?_
        exact g_iret o ρ dX10_term_32 (Pm.eq (if_neg (fun z => bI_0.mp c23 z.2.2)) (Pm_fnd rfl (kC.rf h) (by decide)))
set_option maxRecDepth 100000 in
set_option maxHeartbeats 400000 in
theorem co_termOf {h : Mem} {σ : Sg} (C : CR h σ) (I : Iv σ) (a b : Int32) : Ct yX9_termOf cX9_termOf 3 (some .int) 2 43 [.ref 0, .int a, .int b] h (Po h (op_termOf a b σ)) := by
  refine Ct.of (by decide) (Nat.le_of_ble_eq_true rfl) (fun Γ o ρ => ?_)
  have ok := I.1.terms
  refine g_aload_n (pc := 0) o dX9_termOf_0 rfl ?_
  refine g_getR (pc := 1) o 0 rfl rfl rfl inX9 (by decide) lf_X9_10 dX9_termOf_1 ?_
  refine g_getR (pc := 4) o 2 rfl rfl rfl inX0 (by decide) lf_X9_137 dX9_termOf_4 ?_
  refine g_iload_n (pc := 7) o dX9_termOf_7 rfl ?_
  refine g_callVi (pc := 8) o (c_isTerm C.1 a) mt_X7_isTerm mv_X7_isTerm lk_X9_146 rfl rfl rfl (by decide) rfl (Nat.le_of_ble_eq_true rfl) dX9_termOf_8 ?_
  refine g_if_eq (pc := 11) o 24 dX9_termOf_11 (by decide) (fun c11 => ?_) (fun c11 => ?_)
  · skip
    refine g_aload_n (pc := 24) o dX9_termOf_24 rfl ?_
    refine g_iconst (pc := 25) o dX9_termOf_25 0 rfl ?_
    refine g_callVi (pc := 26) o (c_finding 0 (by decide) h) mt_X9_finding mv_X9_finding lk_X9_58 rfl rfl rfl (by decide) rfl (Nat.le_of_ble_eq_true rfl) dX9_termOf_26 ?_
    exact g_iret o ρ dX9_termOf_29 (Po.eq (if_neg (fun z => bI_0.mp c11 z.1)) (Po_fnd C (by decide)))
  · skip
    refine g_iload_n (pc := 14) o dX9_termOf_14 rfl ?_
    refine g_if_lt (pc := 15) o 24 dX9_termOf_15 (by decide) (fun c15 => ?_) (fun c15 => ?_)
    · skip
      refine g_aload_n (pc := 24) o dX9_termOf_24 rfl ?_
      refine g_iconst (pc := 25) o dX9_termOf_25 0 rfl ?_
      refine g_callVi (pc := 26) o (c_finding 0 (by decide) h) mt_X9_finding mv_X9_finding lk_X9_58 rfl rfl rfl (by decide) rfl (Nat.le_of_ble_eq_true rfl) dX9_termOf_26 ?_
      exact g_iret o ρ dX9_termOf_29 (Po.eq (if_neg (fun z => (by have := (lt0 b).mp c15; have := z.2.1; omega))) (Po_fnd C (by decide)))
    · skip
      refine g_iload_n (pc := 18) o dX9_termOf_18 rfl ?_
      refine g_bipush (pc := 19) o dX9_termOf_19 7 rfl ?_
      refine g_ic_le (pc := 21) o 30 dX9_termOf_21 (by decide) (fun c21 => ?_) (fun c21 => ?_)
      · skip
        have k1 := mt (lt0 b).mpr c15
        have k2 := (leN b 7 (by decide)).mp c21
        have eq : op_termOf a b σ = ((if b = 7 then nI (askT (σ 0) (ca_n a)) else tmF (σ 0) (ca_n a) (ca_n b)), σ) := if_pos ⟨bI_n0.mp c11, by omega, by omega⟩
        rw [eq] at ρ
        obtain ⟨t, ht, ht2, rfl, et⟩ := t_of ok (bI_n0.mp c11)
        obtain ⟨j, hj, rfl, ej⟩ := n_of (x := b) (b := 7) ⟨by omega, by omega⟩ (by decide)
        rw [et, ej] at ρ
        refine g_iload_n (pc := 30) o dX9_termOf_30 rfl ?_
        refine g_bipush (pc := 31) o dX9_termOf_31 7 rfl ?_
        refine g_ic_ne (pc := 33) o 50 dX9_termOf_33 (by decide) (fun c33 => ?_) (fun c33 => ?_)
        · skip
          have hj7 : j < 7 := by
            rcases Nat.lt_or_ge j 7 with q | q
            · exact q
            · exact absurd (show nI j = nI 7 by rw [show j = 7 by omega]) c33
          refine g_aload_n (pc := 50) o dX9_termOf_50 rfl ?_
          refine g_getR (pc := 51) o 0 rfl rfl rfl inX9 (by decide) lf_X9_10 dX9_termOf_51 ?_
          refine g_getR (pc := 54) o 2 rfl rfl rfl inX0 (by decide) lf_X9_137 dX9_termOf_54 ?_
          refine g_iload_n (pc := 57) o dX9_termOf_57 rfl ?_
          refine g_iload_n (pc := 58) o dX9_termOf_58 rfl ?_
          refine g_callVi (pc := 59) o (c_tf C.1 t j ht2 hj7) mt_X7_field mv_X7_field lk_X9_152 rfl rfl rfl (by decide) rfl (Nat.le_of_ble_eq_true rfl) dX9_termOf_59 ?_
          exact g_iret o ρ dX9_termOf_62 (Po.mk (if_neg c33).symm C (kM.rf h))
        · skip
          refine g_aload_n (pc := 36) o dX9_termOf_36 rfl ?_
          refine g_getR (pc := 37) o 0 rfl rfl rfl inX9 (by decide) lf_X9_10 dX9_termOf_37 ?_
          refine g_getR (pc := 40) o 2 rfl rfl rfl inX0 (by decide) lf_X9_137 dX9_termOf_40 ?_
          refine g_iload_n (pc := 43) o dX9_termOf_43 rfl ?_
          refine g_callVi (pc := 44) o (c_asked C.1 I.1.tm t ht2) mt_X7_asked mv_X7_asked lk_X9_149 rfl rfl rfl (by decide) rfl (Nat.le_of_ble_eq_true rfl) dX9_termOf_44 ?_
          refine g_goto (pc := 47) o 62 dX9_termOf_47 (by decide) ?_
          exact g_iret o ρ dX9_termOf_62 (Po.mk (if_pos c33).symm C (kM.rf h))
      · skip
        refine g_aload_n (pc := 24) o dX9_termOf_24 rfl ?_
        refine g_iconst (pc := 25) o dX9_termOf_25 0 rfl ?_
        refine g_callVi (pc := 26) o (c_finding 0 (by decide) h) mt_X9_finding mv_X9_finding lk_X9_58 rfl rfl rfl (by decide) rfl (Nat.le_of_ble_eq_true rfl) dX9_termOf_26 ?_
        exact g_iret o ρ dX9_termOf_29 (Po.eq (if_neg (fun z => (by have := mt (leN b 7 (by decide)).mpr c21; have := z.2.2; omega))) (Po_fnd C (by decide)))
set_option maxRecDepth 100000 in
set_option maxHeartbeats 400000 in
theorem mo_termOf {h : Mem} (I : Iv (absM h)) (a b : Int32) : Ct yX10_termOf cX10_termOf 3 (some .int) 2 46 [.ref 51, .int a, .int b] h (Pm h (op_termOf a b (absM h))) := by
  refine Ct.of (by decide) (Nat.le_of_ble_eq_true rfl) (fun Γ o ρ => ?_)
  have ok : okT (h.1 52) := I.1.terms
  have d1 := in_rng b 0 7 (by decide)
  refine g_aload_n (pc := 0) o dX10_termOf_0 rfl ?_
  refine g_iload_n (pc := 1) o dX10_termOf_1 rfl ?_
  refine g_callVi (pc := 2) o (m_isTerm ok a) mt_X10_isTerm mv_X10_isTerm lk_X10_145 rfl rfl rfl (by decide) rfl (Nat.le_of_ble_eq_true rfl) dX10_termOf_2 ?_
  refine g_if_eq (pc := 5) o 20 dX10_termOf_5 (by decide) (fun c5 => ?_) (fun c5 => ?_)
  · skip
    refine g_aload_n (pc := 20) o dX10_termOf_20 rfl ?_
    refine g_ldc (pc := 21) o dX10_termOf_21 lc_X10_68 ?_
    refine g_callVi (pc := 23) o (m_finds 0 (by decide) h) mt_X10_finds mv_X10_finds lk_X10_86 rfl rfl rfl (by decide) rfl (Nat.le_of_ble_eq_true rfl) dX10_termOf_23 ?_
    exact g_iret o ρ dX10_termOf_26 (Pm.eq (if_neg (fun z => bI_0.mp c5 z.1)) (Pm_fnd rfl (kC.rf h) (by decide)))
  · skip
    refine g_iload_n (pc := 8) o dX10_termOf_8 rfl ?_
    refine g_i2l (pc := 9) o dX10_termOf_9 ?_
    refine g_lconst (pc := 10) o dX10_termOf_10 0 rfl ?_
    refine g_ldc2 (pc := 11) o dX10_termOf_11 lc_X10_75 ?_
    refine g_callSi (pc := 14) o (m_in b.toInt64 0 7 h) mt_X10_in ms_X10_in lk_X10_71 rfl (by decide) rfl (Nat.le_of_ble_eq_true rfl) dX10_termOf_14 ?_
    refine g_if_ne (pc := 17) o 27 dX10_termOf_17 (by decide) (fun c17 => ?_) (fun c17 => ?_)
    · skip
      rw [d1] at c17
      have eq : op_termOf a b (absM h) = ((if b = 7 then nI (askT (h.1 52) (ca_n a)) else tmF (h.1 52) (ca_n a) (ca_n b)), absM h) := if_pos ⟨bI_n0.mp c5, bI_n0.mp c17⟩
      rw [eq] at ρ
      obtain ⟨t, ht, ht2, rfl, et⟩ := t_of ok (bI_n0.mp c5)
      obtain ⟨j, hj, rfl, ej⟩ := n_of (x := b) (b := 7) (bI_n0.mp c17) (by decide)
      rw [et, ej] at ρ
      refine g_iload_n (pc := 27) o dX10_termOf_27 rfl ?_
      refine g_bipush (pc := 28) o dX10_termOf_28 7 rfl ?_
      refine g_ic_ge (pc := 30) o 42 dX10_termOf_30 (by decide) (fun c30 => ?_) (fun c30 => ?_)
      · skip
        have j7 : j = 7 := by have := (nI_leI (a := 7) (by decide) (by omega)).mp c30; omega
        subst j7
        refine g_aload_n (pc := 42) o dX10_termOf_42 rfl ?_
        refine g_iload_n (pc := 43) o dX10_termOf_43 rfl ?_
        refine g_callVi (pc := 44) o (m_asked (h := h) I.1.tm t ht2) mt_X10_asked mv_X10_asked lk_X10_148 rfl rfl rfl (by decide) rfl (Nat.le_of_ble_eq_true rfl) dX10_termOf_44 ?_
        exact g_iret o ρ dX10_termOf_47 (Pm.mk rfl rfl (kC.rf h))
      · skip
        have j7 : j < 7 := by have := mt (nI_leI (a := 7) (b := j) (by decide) (by omega)).mpr c30; omega
        refine g_aload_n (pc := 33) o dX10_termOf_33 rfl ?_
        refine g_iload_n (pc := 34) o dX10_termOf_34 rfl ?_
        refine g_iload_n (pc := 35) o dX10_termOf_35 rfl ?_
        refine g_callVi (pc := 36) o (m_of t j ht2 j7) mt_X10_of mv_X10_of lk_X10_131 rfl rfl rfl (by decide) rfl (Nat.le_of_ble_eq_true rfl) dX10_termOf_36 ?_
        refine g_goto (pc := 39) o 47 dX10_termOf_39 (by decide) ?_
        exact g_iret o ρ dX10_termOf_47 (Pm.mk (if_neg (fun z => absurd ((nI_eq (a := j) (b := 7) (by omega) (by decide)).mp z) (by omega))).symm rfl (kC.rf h))
    · skip
      refine g_aload_n (pc := 20) o dX10_termOf_20 rfl ?_
      refine g_ldc (pc := 21) o dX10_termOf_21 lc_X10_68 ?_
      refine g_callVi (pc := 23) o (m_finds 0 (by decide) h) mt_X10_finds mv_X10_finds lk_X10_86 rfl rfl rfl (by decide) rfl (Nat.le_of_ble_eq_true rfl) dX10_termOf_23 ?_
      exact g_iret o ρ dX10_termOf_26 (Pm.eq (if_neg (fun z => (by rw [d1] at c17; exact bI_0.mp c17 z.2))) (Pm_fnd rfl (kC.rf h) (by decide)))
set_option maxRecDepth 100000 in
set_option maxHeartbeats 400000 in
theorem co_turn {h : Mem} {σ : Sg} (C : CR h σ) (I : Iv σ) (a k : Int32) : Ct yX9_turn cX9_turn 4 (some .int) 1 22 [.ref 0, .int a, .int k] h (Po h (op_turn a k σ)) := by
  refine Ct.of (by decide) (Nat.le_of_ble_eq_true rfl) (fun Γ o ρ => ?_)
  have ok := I.1.terms
  refine g_aload_n (pc := 0) o dX9_turn_0 rfl ?_
  refine g_getR (pc := 1) o 0 rfl rfl rfl inX9 (by decide) lf_X9_10 dX9_turn_1 ?_
  refine g_getR (pc := 4) o 2 rfl rfl rfl inX0 (by decide) lf_X9_137 dX9_turn_4 ?_
  refine g_iload_n (pc := 7) o dX9_turn_7 rfl ?_
  refine g_callVi (pc := 8) o (c_isTerm C.1 a) mt_X7_isTerm mv_X7_isTerm lk_X9_146 rfl rfl rfl (by decide) rfl (Nat.le_of_ble_eq_true rfl) dX9_turn_8 ?_
  refine g_if_eq (pc := 11) o 21 dX9_turn_11 (by decide) (fun c11 => ?_) (fun c11 => ?_)
  · skip
    refine g_aload_n (pc := 21) o dX9_turn_21 rfl ?_
    refine g_iconst (pc := 22) o dX9_turn_22 0 rfl ?_
    refine g_callVi (pc := 23) o (c_finding 0 (by decide) h) mt_X9_finding mv_X9_finding lk_X9_58 rfl rfl rfl (by decide) rfl (Nat.le_of_ble_eq_true rfl) dX9_turn_23 ?_
    exact g_iret o ρ dX9_turn_26 (Po.eq (if_neg (fun z => bI_0.mp c11 z.1)) (Po_fnd C (by decide)))
  · skip
    refine g_iload_n (pc := 14) o dX9_turn_14 rfl ?_
    refine g_callSi (pc := 15) o (c_isKind k h) mt_X7_isKind ms_X7_isKind lk_X9_132 rfl (by decide) rfl (Nat.le_of_ble_eq_true rfl) dX9_turn_15 ?_
    refine g_if_ne (pc := 18) o 27 dX9_turn_18 (by decide) (fun c18 => ?_) (fun c18 => ?_)
    · skip
      have eq : op_turn a k σ = (tmF (σ 0) (ca_n a) 0, sf σ 0 (upd (σ 0) (190 + (ca_n a * 7 + 0)) k)) := if_pos ⟨bI_n0.mp c11, bI_n0.mp c18⟩
      rw [eq] at ρ
      obtain ⟨t, ht, ht2, rfl, et⟩ := t_of ok (bI_n0.mp c11)
      rw [et] at ρ
      refine g_aload_n (pc := 27) o dX9_turn_27 rfl ?_
      refine g_getR (pc := 28) o 0 rfl rfl rfl inX9 (by decide) lf_X9_10 dX9_turn_28 ?_
      refine g_getR (pc := 31) o 2 rfl rfl rfl inX0 (by decide) lf_X9_137 dX9_turn_31 ?_
      refine g_iload_n (pc := 34) o dX9_turn_34 rfl ?_
      refine g_iconst (pc := 35) o dX9_turn_35 0 rfl ?_
      refine g_callVi (pc := 36) o (c_tf C.1 t 0 ht2 (by decide)) mt_X7_field mv_X7_field lk_X9_152 rfl rfl rfl (by decide) rfl (Nat.le_of_ble_eq_true rfl) dX9_turn_36 ?_
      refine g_istore_n (pc := 39) o dX9_turn_39 (by decide) ?_
      refine g_aload_n (pc := 40) o dX9_turn_40 rfl ?_
      refine g_getR (pc := 41) o 0 rfl rfl rfl inX9 (by decide) lf_X9_10 dX9_turn_41 ?_
      refine g_getR (pc := 44) o 2 rfl rfl rfl inX0 (by decide) lf_X9_137 dX9_turn_44 ?_
      refine g_iload_n (pc := 47) o dX9_turn_47 rfl ?_
      refine g_iload_n (pc := 48) o dX9_turn_48 rfl ?_
      refine g_callVv (pc := 49) o (c_setKind t ht2 k) mt_X7_setKind mv_X7_setKind lk_X9_160 rfl rfl rfl (by decide) rfl (Nat.le_of_ble_eq_true rfl) dX9_turn_49 ?_
      refine g_iload_n (pc := 52) o dX9_turn_52 rfl ?_
      exact g_iret o ρ dX9_turn_53 (Po_s C (BR_tr C.1 (by omega)) ((offB.rf h).mw (by decide)))
    · skip
      refine g_aload_n (pc := 21) o dX9_turn_21 rfl ?_
      refine g_iconst (pc := 22) o dX9_turn_22 0 rfl ?_
      refine g_callVi (pc := 23) o (c_finding 0 (by decide) h) mt_X9_finding mv_X9_finding lk_X9_58 rfl rfl rfl (by decide) rfl (Nat.le_of_ble_eq_true rfl) dX9_turn_23 ?_
      exact g_iret o ρ dX9_turn_26 (Po.eq (if_neg (fun z => bI_0.mp c18 z.2)) (Po_fnd C (by decide)))
set_option maxRecDepth 100000 in
set_option maxHeartbeats 400000 in
theorem mo_turn {h : Mem} (I : Iv (absM h)) (a k : Int32) : Ct yX10_turn cX10_turn 4 (some .int) 2 46 [.ref 51, .int a, .int k] h (Pm h (op_turn a k (absM h))) := by
  refine Ct.of (by decide) (Nat.le_of_ble_eq_true rfl) (fun Γ o ρ => ?_)
  have ok : okT (h.1 52) := I.1.terms
  have d1 := in_rng k 0 6 (by decide)
  refine g_aload_n (pc := 0) o dX10_turn_0 rfl ?_
  refine g_iload_n (pc := 1) o dX10_turn_1 rfl ?_
  refine g_callVi (pc := 2) o (m_isTerm ok a) mt_X10_isTerm mv_X10_isTerm lk_X10_145 rfl rfl rfl (by decide) rfl (Nat.le_of_ble_eq_true rfl) dX10_turn_2 ?_
  refine g_if_eq (pc := 5) o 20 dX10_turn_5 (by decide) (fun c5 => ?_) (fun c5 => ?_)
  · skip
    refine g_aload_n (pc := 20) o dX10_turn_20 rfl ?_
    refine g_ldc (pc := 21) o dX10_turn_21 lc_X10_68 ?_
    refine g_callVi (pc := 23) o (m_finds 0 (by decide) h) mt_X10_finds mv_X10_finds lk_X10_86 rfl rfl rfl (by decide) rfl (Nat.le_of_ble_eq_true rfl) dX10_turn_23 ?_
    exact g_iret o ρ dX10_turn_26 (Pm.eq (if_neg (fun z => bI_0.mp c5 z.1)) (Pm_fnd rfl (kC.rf h) (by decide)))
  · skip
    refine g_iload_n (pc := 8) o dX10_turn_8 rfl ?_
    refine g_i2l (pc := 9) o dX10_turn_9 ?_
    refine g_lconst (pc := 10) o dX10_turn_10 0 rfl ?_
    refine g_ldc2 (pc := 11) o dX10_turn_11 lc_X10_137 ?_
    refine g_callSi (pc := 14) o (m_in k.toInt64 0 6 h) mt_X10_in ms_X10_in lk_X10_71 rfl (by decide) rfl (Nat.le_of_ble_eq_true rfl) dX10_turn_14 ?_
    refine g_if_ne (pc := 17) o 27 dX10_turn_17 (by decide) (fun c17 => ?_) (fun c17 => ?_)
    · skip
      rw [d1] at c17
      have eq : op_turn a k (absM h) = (tmF (h.1 52) (ca_n a) 0, sf (absM h) 0 (upd (h.1 52) (190 + (ca_n a * 7 + 0)) k)) := if_pos ⟨bI_n0.mp c5, bI_n0.mp c17⟩
      rw [eq] at ρ
      obtain ⟨t, ht, ht2, rfl, et⟩ := t_of ok (bI_n0.mp c5)
      rw [et] at ρ
      have q : nI 190 + nI 7 * nI t = nI (190 + (t * 7 + 0)) := by rw [pk_mul, nI_add]; congr 1; omega
      refine g_aload_n (pc := 27) o dX10_turn_27 rfl ?_
      refine g_iload_n (pc := 28) o dX10_turn_28 rfl ?_
      refine g_iconst (pc := 29) o dX10_turn_29 0 rfl ?_
      refine g_callVi (pc := 30) o (m_of t 0 ht2 (by decide)) mt_X10_of mv_X10_of lk_X10_131 rfl rfl rfl (by decide) rfl (Nat.le_of_ble_eq_true rfl) dX10_turn_30 ?_
      refine g_istore_n (pc := 33) o dX10_turn_33 (by decide) ?_
      refine g_aload_n (pc := 34) o dX10_turn_34 rfl ?_
      refine g_getR (pc := 35) o 0 rfl rfl rfl inX10 (by decide) lf_X10_7 dX10_turn_35 ?_
      refine g_sipush (pc := 38) o dX10_turn_38 190 rfl ?_
      refine g_bipush (pc := 41) o dX10_turn_41 7 rfl ?_
      refine g_iload_n (pc := 43) o dX10_turn_43 rfl ?_
      refine g_imul (pc := 44) o dX10_turn_44 ?_
      refine g_iadd (pc := 45) o dX10_turn_45 ?_
      refine g_iload_n (pc := 46) o dX10_turn_46 rfl ?_
      refine n_iast (pc := 47) o (190 + (t * 7 + 0)) (q) rfl ((by omega)) (by decide) dX10_turn_47 ?_
      refine g_iload_n (pc := 48) o dX10_turn_48 rfl ?_
      exact g_iret o ρ dX10_turn_49 (Pm_s rfl (offM.rf h).mw)
    · skip
      refine g_aload_n (pc := 20) o dX10_turn_20 rfl ?_
      refine g_ldc (pc := 21) o dX10_turn_21 lc_X10_68 ?_
      refine g_callVi (pc := 23) o (m_finds 0 (by decide) h) mt_X10_finds mv_X10_finds lk_X10_86 rfl rfl rfl (by decide) rfl (Nat.le_of_ble_eq_true rfl) dX10_turn_23 ?_
      exact g_iret o ρ dX10_turn_26 (Pm.eq (if_neg (fun z => (by rw [d1] at c17; exact bI_0.mp c17 z.2))) (Pm_fnd rfl (kC.rf h) (by decide)))
set_option maxRecDepth 100000 in
set_option maxHeartbeats 400000 in
theorem co_bad {h : Mem} {σ : Sg} (C : CR h σ) (I : Iv σ) (a : Int32) : Ct yX9_bad cX9_bad 2 (some .int) 2 44 [.ref 0, .int a] h (Po h (op_bad a σ)) := by
  refine Ct.of (by decide) (Nat.le_of_ble_eq_true rfl) (fun Γ o ρ => ?_)
  have ok := I.1.terms
  refine g_aload_n (pc := 0) o dX9_bad_0 rfl ?_
  refine g_getR (pc := 1) o 0 rfl rfl rfl inX9 (by decide) lf_X9_10 dX9_bad_1 ?_
  refine g_getR (pc := 4) o 2 rfl rfl rfl inX0 (by decide) lf_X9_137 dX9_bad_4 ?_
  refine g_iload_n (pc := 7) o dX9_bad_7 rfl ?_
  refine g_callVi (pc := 8) o (c_isTerm C.1 a) mt_X7_isTerm mv_X7_isTerm lk_X9_146 rfl rfl rfl (by decide) rfl (Nat.le_of_ble_eq_true rfl) dX9_bad_8 ?_
  refine g_if_eq (pc := 11) o 25 dX9_bad_11 (by decide) (fun c11 => ?_) (fun c11 => ?_)
  · skip
    refine g_aload_n (pc := 25) o dX9_bad_25 rfl ?_
    refine g_iconst (pc := 26) o dX9_bad_26 0 rfl ?_
    refine g_callVi (pc := 27) o (c_finding 0 (by decide) h) mt_X9_finding mv_X9_finding lk_X9_58 rfl rfl rfl (by decide) rfl (Nat.le_of_ble_eq_true rfl) dX9_bad_27 ?_
    exact g_iret o ρ dX9_bad_30 (Po.eq (if_neg (fun z => bI_0.mp c11 z)) (Po_fnd C (by decide)))
  · skip
    have eq : op_bad a σ = (badF (σ 0) (ca_n a), σ) := if_pos (bI_n0.mp c11)
    rw [eq] at ρ
    obtain ⟨t, ht, ht2, rfl, et⟩ := t_of ok (bI_n0.mp c11)
    rw [et] at ρ
    refine g_aload_n (pc := 14) o dX9_bad_14 rfl ?_
    refine g_getR (pc := 15) o 0 rfl rfl rfl inX9 (by decide) lf_X9_10 dX9_bad_15 ?_
    refine g_iload_n (pc := 18) o dX9_bad_18 rfl ?_
    refine g_callVi (pc := 19) o (c_badPlaces C.1 I.1.tm t ht2) mt_X0_badPlaces mv_X0_badPlaces lk_X9_164 rfl rfl rfl (by decide) rfl (Nat.le_of_ble_eq_true rfl) dX9_bad_19 ?_
    refine g_goto (pc := 22) o 30 dX9_bad_22 (by decide) ?_
    exact g_iret o ρ dX9_bad_30 (Po.mk rfl C (kM.rf h))
set_option maxRecDepth 100000 in
set_option maxHeartbeats 400000 in
theorem mo_bad {h : Mem} (I : Iv (absM h)) (a : Int32) : Ct yX10_bad cX10_bad 2 (some .int) 2 46 [.ref 51, .int a] h (Pm h (op_bad a (absM h))) := by
  refine Ct.of (by decide) (Nat.le_of_ble_eq_true rfl) (fun Γ o ρ => ?_)
  have ok : okT (h.1 52) := I.1.terms
  refine g_aload_n (pc := 0) o dX10_bad_0 rfl ?_
  refine g_iload_n (pc := 1) o dX10_bad_1 rfl ?_
  refine g_callVi (pc := 2) o (m_isTerm ok a) mt_X10_isTerm mv_X10_isTerm lk_X10_145 rfl rfl rfl (by decide) rfl (Nat.le_of_ble_eq_true rfl) dX10_bad_2 ?_
  refine g_if_eq (pc := 5) o 16 dX10_bad_5 (by decide) (fun c5 => ?_) (fun c5 => ?_)
  · skip
    refine g_aload_n (pc := 16) o dX10_bad_16 rfl ?_
    refine g_ldc (pc := 17) o dX10_bad_17 lc_X10_68 ?_
    refine g_callVi (pc := 19) o (m_finds 0 (by decide) h) mt_X10_finds mv_X10_finds lk_X10_86 rfl rfl rfl (by decide) rfl (Nat.le_of_ble_eq_true rfl) dX10_bad_19 ?_
    exact g_iret o ρ dX10_bad_22 (Pm.eq (if_neg (fun z => bI_0.mp c5 z)) (Pm_fnd rfl (kC.rf h) (by decide)))
  · skip
    have eq : op_bad a (absM h) = (badF (h.1 52) (ca_n a), absM h) := if_pos (bI_n0.mp c5)
    rw [eq] at ρ
    obtain ⟨t, ht, ht2, rfl, et⟩ := t_of ok (bI_n0.mp c5)
    rw [et] at ρ
    refine g_aload_n (pc := 8) o dX10_bad_8 rfl ?_
    refine g_iload_n (pc := 9) o dX10_bad_9 rfl ?_
    refine g_callVi (pc := 10) o (m_badOf (h := h) I.1.tm t ht2) mt_X10_badOf mv_X10_badOf lk_X10_154 rfl rfl rfl (by decide) rfl (Nat.le_of_ble_eq_true rfl) dX10_bad_10 ?_
    refine g_goto (pc := 13) o 22 dX10_bad_13 (by decide) ?_
    exact g_iret o ρ dX10_bad_22 (Pm.mk rfl rfl (kC.rf h))
set_option maxRecDepth 100000 in
set_option maxHeartbeats 400000 in
theorem co_inForce {h : Mem} {σ : Sg} (C : CR h σ) (I : Iv σ) (p d : Int32) : Ct yX9_inForce cX9_inForce 3 (some .int) 3 68 [.ref 0, .int p, .int d] h (Po h (op_inForce p d σ)) := by
  refine Ct.of (by decide) (Nat.le_of_ble_eq_true rfl) (fun Γ o ρ => ?_)
  have ok := I.1.terms
  refine g_iload_n (pc := 0) o dX9_inForce_0 rfl ?_
  refine g_callSi (pc := 1) o (c_isPerson p h) mt_X9_isPerson ms_X9_isPerson lk_X9_83 rfl (by decide) rfl (Nat.le_of_ble_eq_true rfl) dX9_inForce_1 ?_
  refine g_if_eq (pc := 4) o 14 dX9_inForce_4 (by decide) (fun c4 => ?_) (fun c4 => ?_)
  · skip
    refine g_aload_n (pc := 14) o dX9_inForce_14 rfl ?_
    refine g_iconst (pc := 15) o dX9_inForce_15 0 rfl ?_
    refine g_callVi (pc := 16) o (c_finding 0 (by decide) h) mt_X9_finding mv_X9_finding lk_X9_58 rfl rfl rfl (by decide) rfl (Nat.le_of_ble_eq_true rfl) dX9_inForce_16 ?_
    exact g_iret o ρ dX9_inForce_19 (Po.eq (if_neg (fun z => bI_0.mp c4 z.1)) (Po_fnd C (by decide)))
  · skip
    refine g_iload_n (pc := 7) o dX9_inForce_7 rfl ?_
    refine g_callSi (pc := 8) o (c_isDay d h) mt_X9_isDay ms_X9_isDay lk_X9_126 rfl (by decide) rfl (Nat.le_of_ble_eq_true rfl) dX9_inForce_8 ?_
    refine g_if_ne (pc := 11) o 20 dX9_inForce_11 (by decide) (fun c11 => ?_) (fun c11 => ?_)
    · skip
      have eq : op_inForce p d σ = (bndF (σ 0) p (ca_n d) (nT (σ 0)), σ) := if_pos ⟨bI_n0.mp c4, bI_n0.mp c11⟩
      rw [eq] at ρ
      obtain ⟨j, hj, rfl, ej⟩ := n_of (x := d) (b := 29) (bI_n0.mp c11) (by decide)
      rw [ej] at ρ
      refine g_aload_n (pc := 20) o dX9_inForce_20 rfl ?_
      refine g_getR (pc := 21) o 0 rfl rfl rfl inX9 (by decide) lf_X9_10 dX9_inForce_21 ?_
      refine g_getR (pc := 24) o 2 rfl rfl rfl inX0 (by decide) lf_X9_137 dX9_inForce_24 ?_
      refine g_iload_n (pc := 27) o dX9_inForce_27 rfl ?_
      refine g_iload_n (pc := 28) o dX9_inForce_28 rfl ?_
      refine g_callVi (pc := 29) o (c_binding C.1 ok p j (by omega)) mt_X7_binding mv_X7_binding lk_X9_167 rfl rfl rfl (by decide) rfl (Nat.le_of_ble_eq_true rfl) dX9_inForce_29 ?_
      exact g_iret o ρ dX9_inForce_32 (Po.mk rfl C (kM.rf h))
    · skip
      refine g_aload_n (pc := 14) o dX9_inForce_14 rfl ?_
      refine g_iconst (pc := 15) o dX9_inForce_15 0 rfl ?_
      refine g_callVi (pc := 16) o (c_finding 0 (by decide) h) mt_X9_finding mv_X9_finding lk_X9_58 rfl rfl rfl (by decide) rfl (Nat.le_of_ble_eq_true rfl) dX9_inForce_16 ?_
      exact g_iret o ρ dX9_inForce_19 (Po.eq (if_neg (fun z => bI_0.mp c11 z.2)) (Po_fnd C (by decide)))
set_option maxRecDepth 100000 in
set_option maxHeartbeats 400000 in
theorem mo_inForce {h : Mem} (I : Iv (absM h)) (p d : Int32) : Ct yX10_inForce cX10_inForce 3 (some .int) 3 71 [.ref 51, .int p, .int d] h (Pm h (op_inForce p d (absM h))) := by
  refine Ct.of (by decide) (Nat.le_of_ble_eq_true rfl) (fun Γ o ρ => ?_)
  have ok : okT (h.1 52) := I.1.terms
  refine g_iload_n (pc := 0) o dX10_inForce_0 rfl ?_
  refine g_callSi (pc := 1) o (m_isPerson p h) mt_X10_isPerson ms_X10_isPerson lk_X10_98 rfl (by decide) rfl (Nat.le_of_ble_eq_true rfl) dX10_inForce_1 ?_
  refine g_if_eq (pc := 4) o 23 dX10_inForce_4 (by decide) (fun c4 => ?_) (fun c4 => ?_)
  · skip
    refine g_aload_n (pc := 23) o dX10_inForce_23 rfl ?_
    refine g_ldc (pc := 24) o dX10_inForce_24 lc_X10_68 ?_
    refine g_callVi (pc := 26) o (m_finds 0 (by decide) h) mt_X10_finds mv_X10_finds lk_X10_86 rfl rfl rfl (by decide) rfl (Nat.le_of_ble_eq_true rfl) dX10_inForce_26 ?_
    exact g_iret o ρ dX10_inForce_29 (Pm.eq (if_neg (fun z => bI_0.mp c4 z.1)) (Pm_fnd rfl (kC.rf h) (by decide)))
  · skip
    refine g_iload_n (pc := 7) o dX10_inForce_7 rfl ?_
    refine g_callSi (pc := 8) o (m_isDay d h) mt_X10_isDay ms_X10_isDay lk_X10_122 rfl (by decide) rfl (Nat.le_of_ble_eq_true rfl) dX10_inForce_8 ?_
    refine g_if_eq (pc := 11) o 23 dX10_inForce_11 (by decide) (fun c11 => ?_) (fun c11 => ?_)
    · skip
      refine g_aload_n (pc := 23) o dX10_inForce_23 rfl ?_
      refine g_ldc (pc := 24) o dX10_inForce_24 lc_X10_68 ?_
      refine g_callVi (pc := 26) o (m_finds 0 (by decide) h) mt_X10_finds mv_X10_finds lk_X10_86 rfl rfl rfl (by decide) rfl (Nat.le_of_ble_eq_true rfl) dX10_inForce_26 ?_
      exact g_iret o ρ dX10_inForce_29 (Pm.eq (if_neg (fun z => bI_0.mp c11 z.2)) (Pm_fnd rfl (kC.rf h) (by decide)))
    · skip
      have eq : op_inForce p d (absM h) = (bndF (h.1 52) p (ca_n d) (nT (h.1 52)), absM h) := if_pos ⟨bI_n0.mp c4, bI_n0.mp c11⟩
      rw [eq] at ρ
      obtain ⟨j, hj, rfl, ej⟩ := n_of (x := d) (b := 29) (bI_n0.mp c11) (by decide)
      rw [ej] at ρ
      refine g_aload_n (pc := 14) o dX10_inForce_14 rfl ?_
      refine g_iload_n (pc := 15) o dX10_inForce_15 rfl ?_
      refine g_iload_n (pc := 16) o dX10_inForce_16 rfl ?_
      refine g_callVi (pc := 17) o (m_inForceOf ok p j (by omega)) mt_X10_inForceOf mv_X10_inForceOf lk_X10_160 rfl rfl rfl (by decide) rfl (Nat.le_of_ble_eq_true rfl) dX10_inForce_17 ?_
      refine g_goto (pc := 20) o 29 dX10_inForce_20 (by decide) ?_
      exact g_iret o ρ dX10_inForce_29 (Pm.mk rfl rfl (kC.rf h))

