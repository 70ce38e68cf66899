/-! ===== copy ===== -/
abbrev partF (sz f n : Int32) : Prop := 0 ≤ f ∧ 0 ≤ n ∧ n ≤ sz - f
theorem part_N {m : Nat} (hm : m ≤ 40) {f n : Int32} (h : partF (nI m) f n) : ∃ a b : Nat, f = nI a ∧ n = nI b ∧ a + b ≤ m ∧ ca_n f = a ∧ ca_n n = b := by
  obtain ⟨h1, h2, h3⟩ := h
  obtain ⟨a, ha, rfl⟩ := nI_of (x := f) (Int32.not_lt.mpr h1)
  obtain ⟨b, hb, rfl⟩ := nI_of (x := n) (Int32.not_lt.mpr h2)
  have e : (nI m - nI a).toInt = (m : Int) - a := by
    rw [Int32.toInt_sub, nI_toInt (by omega), nI_toInt ha]
    apply Int.bmod_eq_of_le <;> omega
  have h4 := Int32.le_iff_toInt_le.mp h3
  rw [e, nI_toInt hb] at h4
  exact ⟨a, b, rfl, rfl, by omega, nI_clamp ha, nI_clamp hb⟩
set_option maxRecDepth 100000 in
set_option maxHeartbeats 400000 in
theorem c_hasPart {h : Mem} {σ : Sg} (C : CR h σ) (k : Nat) (hk : k < 4) (f n : Int32) : Ct yX4_hasPart cX4_hasPart 4 (some .boolean) 0 0 [.ref 34, .int (nI k), .int f, .int n] h (Ei (bI (partF (σ 6 k) f n)) h) := by
  refine Ct.of (by decide) (Nat.le_of_ble_eq_true rfl) (fun Γ o ρ => ?_)
  show ca_G Γ 4 _ _ [_, _, _, _] _
  refine g_iload_n (pc := 0) o dX4_hasPart_0 rfl ?_
  refine g_if_lt (pc := 1) o 24 dX4_hasPart_1 (by decide) (fun c1 => ?_) (fun c1 => ?_)
  · skip
    refine g_iconst (pc := 24) o dX4_hasPart_24 0 rfl ?_
    exact g_zret o ρ (by first | rfl | exact bI_b) dX4_hasPart_25 (Ei.mk (bI_f (fun z => Int32.not_lt.mpr z.1 c1)) rfl)
  · skip
    refine g_iload_n (pc := 4) o dX4_hasPart_4 rfl ?_
    refine g_if_lt (pc := 5) o 24 dX4_hasPart_5 (by decide) (fun c5 => ?_) (fun c5 => ?_)
    · skip
      refine g_iconst (pc := 24) o dX4_hasPart_24 0 rfl ?_
      exact g_zret o ρ (by first | rfl | exact bI_b) dX4_hasPart_25 (Ei.mk (bI_f (fun z => Int32.not_lt.mpr z.2.1 c5)) rfl)
    · skip
      refine g_iload_n (pc := 8) o dX4_hasPart_8 rfl ?_
      refine g_aload_n (pc := 9) o dX4_hasPart_9 rfl ?_
      refine g_getR (pc := 10) o 1 rfl rfl rfl inX4 (by decide) lf_X4_13 dX4_hasPart_10 ?_
      refine g_iload_n (pc := 13) o dX4_hasPart_13 rfl ?_
      refine n_ialdE (pc := 14) o k (rfl) rfl ((by omega)) (by decide) (C.b6 k hk) dX4_hasPart_14 ?_
      refine g_iload_n (pc := 15) o dX4_hasPart_15 rfl ?_
      refine g_isub (pc := 16) o dX4_hasPart_16 ?_
      refine g_ic_gt (pc := 17) o 24 dX4_hasPart_17 (by decide) (fun c17 => ?_) (fun c17 => ?_)
      · skip
        refine g_iconst (pc := 24) o dX4_hasPart_24 0 rfl ?_
        exact g_zret o ρ (by first | rfl | exact bI_b) dX4_hasPart_25 (Ei.mk (bI_f (fun z => Int32.not_lt.mpr z.2.2 c17)) rfl)
      · skip
        refine g_iconst (pc := 20) o dX4_hasPart_20 1 rfl ?_
        refine g_goto (pc := 21) o 25 dX4_hasPart_21 (by decide) ?_
        exact g_zret o ρ (by first | rfl | exact bI_b) dX4_hasPart_25 (Ei.mk (bI_t ⟨Int32.not_lt.mp c1, Int32.not_lt.mp c5, Int32.not_lt.mp c17⟩) rfl)
set_option maxRecDepth 100000 in
set_option maxHeartbeats 400000 in
theorem c_move {h : Mem} (k a t b n : Nat) (h1 : k * 40 + a + n ≤ 160) (h2 : t * 40 + b + n ≤ 160) : Ct yX4_move cX4_move 6 none 1 60 [.ref 34, .int (nI k), .int (nI a), .int (nI t), .int (nI b), .int (nI n)] h (Ev (mcp h 37 37 (k * 40 + a) (t * 40 + b) n)) := by
  refine Ct.of (by decide) (Nat.le_of_ble_eq_true rfl) (fun Γ o ρ => ?_)
  show ca_G Γ 6 _ _ [_, _, _, _, _, _] _
  refine g_aload_n (pc := 0) o dX4_move_0 rfl ?_
  refine g_getR (pc := 1) o 2 rfl rfl rfl inX4 (by decide) lf_X4_16 dX4_move_1 ?_
  refine g_iload_n (pc := 4) o dX4_move_4 rfl ?_
  refine g_bipush (pc := 5) o dX4_move_5 40 rfl ?_
  refine g_imul (pc := 7) o dX4_move_7 ?_
  refine g_iload_n (pc := 8) o dX4_move_8 rfl ?_
  refine g_iadd (pc := 9) o dX4_move_9 ?_
  refine g_aload_n (pc := 10) o dX4_move_10 rfl ?_
  refine g_getR (pc := 11) o 2 rfl rfl rfl inX4 (by decide) lf_X4_16 dX4_move_11 ?_
  refine g_iload_n (pc := 14) o dX4_move_14 rfl ?_
  refine g_bipush (pc := 15) o dX4_move_15 40 rfl ?_
  refine g_imul (pc := 17) o dX4_move_17 ?_
  refine g_iload (pc := 18) o dX4_move_18 rfl ?_
  refine g_iadd (pc := 20) o dX4_move_20 ?_
  refine g_iload (pc := 21) o dX4_move_21 rfl ?_
  refine n_acopy (pc := 23) o (k * 40 + a) (t * 40 + b) (n) (ix k 40 a) (ix t 40 b) (rfl) rfl rfl (by omega) (by omega) (by decide) lk_X4_19 mn_acopy ms_acopy mi_acopy (by decide) (Nat.le_of_ble_eq_true rfl) dX4_move_23 ?_
  exact g_vret o ρ dX4_move_26 ⟨rfl, rfl⟩
def op_copy (a f t g n : Int32) (σ : Sg) : Int32 × Sg := if rng a 0 3 ∧ rng t 0 3 then (if ¬ σ 5 (ca_n a) = 0 ∧ ¬ σ 5 (ca_n t) = 0 then (if σ 5 (ca_n a) = σ 5 (ca_n t) then (if partF (σ 6 (ca_n a)) f n ∧ partF (σ 6 (ca_n t)) g n then (n, sf σ 7 (va_cpy (σ 7) (σ 7) (ca_n a * 40 + ca_n f) (ca_n t * 40 + ca_n g) (ca_n n))) else fnd σ 0) else fnd σ 2) else fnd σ 5) else fnd σ 0
theorem CR_7f {h h2 : Mem} {σ : Sg} {f : Nat → Int32} (C : CR h σ) (e : ∀ j, j < 160 → h2.1 37 j = f j) (eo : ∀ k, k ≠ 37 → h2.1 k = h.1 k) : CR h2 (sf σ 7 f) := by
  rw [← shS_7]
  exact CR_sh C (fun j hj => by rw [eo 35 (by decide)]; exact C.b5 j hj) (fun j hj => by rw [eo 36 (by decide)]; exact C.b6 j hj) e (fun k _ _ hk => eo k hk)
set_option maxRecDepth 100000 in
set_option maxHeartbeats 400000 in
theorem co_copy {h : Mem} {σ : Sg} (C : CR h σ) (I : Iv σ) (a f t g n : Int32) : Ct yX9_copy cX9_copy 6 (some .int) 2 85 [.ref 0, .int a, .int f, .int t, .int g, .int n] h (Po h (op_copy a f t g n σ)) := by
  refine Ct.of (by decide) (Nat.le_of_ble_eq_true rfl) (fun Γ o ρ => ?_)
  show ca_G Γ 6 _ _ [_, _, _, _, _, _] _
  refine g_iload_n (pc := 0) o dX9_copy_0 rfl ?_
  refine g_callSi (pc := 1) o (c_isSheet a h) mt_X4_isSheet ms_X4_isSheet lk_X9_300 rfl (by decide) rfl (Nat.le_of_ble_eq_true rfl) dX9_copy_1 ?_
  refine g_if_eq (pc := 4) o 14 dX9_copy_4 (by decide) (fun c4 => ?_) (fun c4 => ?_)
  · skip
    refine g_aload_n (pc := 14) o dX9_copy_14 rfl ?_
    refine g_iconst (pc := 15) o dX9_copy_15 0 rfl ?_
    refine g_callVi (pc := 16) o (c_finding 0 (by decide) h) mt_X9_finding mv_X9_finding lk_X9_58 rfl rfl rfl (by decide) rfl (Nat.le_of_ble_eq_true rfl) dX9_copy_16 ?_
    exact g_iret o ρ dX9_copy_19 (Po.eq (if_neg (fun z => bI_0.mp c4 z.1)) (Po_fnd C (by decide)))
  · skip
    refine g_iload_n (pc := 7) o dX9_copy_7 rfl ?_
    refine g_callSi (pc := 8) o (c_isSheet t h) mt_X4_isSheet ms_X4_isSheet lk_X9_300 rfl (by decide) rfl (Nat.le_of_ble_eq_true rfl) dX9_copy_8 ?_
    refine g_if_ne (pc := 11) o 20 dX9_copy_11 (by decide) (fun c11 => ?_) (fun c11 => ?_)
    · skip
      have eq : op_copy a f t g n σ = if ¬ σ 5 (ca_n a) = 0 ∧ ¬ σ 5 (ca_n t) = 0 then (if σ 5 (ca_n a) = σ 5 (ca_n t) then (if partF (σ 6 (ca_n a)) f n ∧ partF (σ 6 (ca_n t)) g n then (n, sf σ 7 (va_cpy (σ 7) (σ 7) (ca_n a * 40 + ca_n f) (ca_n t * 40 + ca_n g) (ca_n n))) else fnd σ 0) else fnd σ 2) else fnd σ 5 := if_pos ⟨bI_n0.mp c4, bI_n0.mp c11⟩
      rw [eq] at ρ
      obtain ⟨k, hk, rfl, ek⟩ := n_of (x := a) (b := 3) (bI_n0.mp c4) (by decide)
      obtain ⟨u, hu, rfl, eu⟩ := n_of (x := t) (b := 3) (bI_n0.mp c11) (by decide)
      rw [ek, eu] at ρ
      clear eq
      obtain ⟨m, hm, em, -⟩ := I.sz k (by omega)
      obtain ⟨w, hw, ew, -⟩ := I.sz u (by omega)
      refine g_aload_n (pc := 20) o dX9_copy_20 rfl ?_
      refine g_getR (pc := 21) o 5 rfl rfl rfl inX9 (by decide) lf_X9_33 dX9_copy_21 ?_
      refine g_iload_n (pc := 24) o dX9_copy_24 rfl ?_
      refine g_callVi (pc := 25) o (c_isMissing C k (by omega)) mt_X4_isMissing mv_X4_isMissing lk_X9_311 rfl rfl rfl (by decide) rfl (Nat.le_of_ble_eq_true rfl) dX9_copy_25 ?_
      refine g_if_ne (pc := 28) o 42 dX9_copy_28 (by decide) (fun c28 => ?_) (fun c28 => ?_)
      · skip
        refine g_aload_n (pc := 42) o dX9_copy_42 rfl ?_
        refine g_iconst (pc := 43) o dX9_copy_43 5 rfl ?_
        refine g_callVi (pc := 44) o (c_finding 5 (by decide) h) mt_X9_finding mv_X9_finding lk_X9_58 rfl rfl rfl (by decide) rfl (Nat.le_of_ble_eq_true rfl) dX9_copy_44 ?_
        exact g_iret o ρ dX9_copy_47 (Po.eq (if_neg (fun z => (by have q := c28; exact z.1 (bI_n0.mp q)))) (Po_fnd C (by decide)))
      · skip
        refine g_aload_n (pc := 31) o dX9_copy_31 rfl ?_
        refine g_getR (pc := 32) o 5 rfl rfl rfl inX9 (by decide) lf_X9_33 dX9_copy_32 ?_
        refine g_iload_n (pc := 35) o dX9_copy_35 rfl ?_
        refine g_callVi (pc := 36) o (c_isMissing C u (by omega)) mt_X4_isMissing mv_X4_isMissing lk_X9_311 rfl rfl rfl (by decide) rfl (Nat.le_of_ble_eq_true rfl) dX9_copy_36 ?_
        refine g_if_eq (pc := 39) o 48 dX9_copy_39 (by decide) (fun c39 => ?_) (fun c39 => ?_)
        · skip
          rw [if_pos ⟨bI_0.mp c28, bI_0.mp c39⟩] at ρ
          refine g_aload_n (pc := 48) o dX9_copy_48 rfl ?_
          refine g_getR (pc := 49) o 5 rfl rfl rfl inX9 (by decide) lf_X9_33 dX9_copy_49 ?_
          refine g_iload_n (pc := 52) o dX9_copy_52 rfl ?_
          refine g_callVi (pc := 53) o (c_bitsOf C k (by omega)) mt_X4_bitsOf mv_X4_bitsOf lk_X9_317 rfl rfl rfl (by decide) rfl (Nat.le_of_ble_eq_true rfl) dX9_copy_53 ?_
          refine g_aload_n (pc := 56) o dX9_copy_56 rfl ?_
          refine g_getR (pc := 57) o 5 rfl rfl rfl inX9 (by decide) lf_X9_33 dX9_copy_57 ?_
          refine g_iload_n (pc := 60) o dX9_copy_60 rfl ?_
          refine g_callVi (pc := 61) o (c_bitsOf C u (by omega)) mt_X4_bitsOf mv_X4_bitsOf lk_X9_317 rfl rfl rfl (by decide) rfl (Nat.le_of_ble_eq_true rfl) dX9_copy_61 ?_
          refine g_ic_eq (pc := 64) o 73 dX9_copy_64 (by decide) (fun c64 => ?_) (fun c64 => ?_)
          · skip
            rw [if_pos c64] at ρ
            refine g_aload_n (pc := 73) o dX9_copy_73 rfl ?_
            refine g_getR (pc := 74) o 5 rfl rfl rfl inX9 (by decide) lf_X9_33 dX9_copy_74 ?_
            refine g_iload_n (pc := 77) o dX9_copy_77 rfl ?_
            refine g_iload_n (pc := 78) o dX9_copy_78 rfl ?_
            refine g_iload (pc := 79) o dX9_copy_79 rfl ?_
            refine g_callVi (pc := 81) o (c_hasPart C k (by omega) f n) mt_X4_hasPart mv_X4_hasPart lk_X9_320 rfl rfl rfl (by decide) rfl (Nat.le_of_ble_eq_true rfl) dX9_copy_81 ?_
            refine g_if_eq (pc := 84) o 102 dX9_copy_84 (by decide) (fun c84 => ?_) (fun c84 => ?_)
            · skip
              refine g_aload_n (pc := 102) o dX9_copy_102 rfl ?_
              refine g_iconst (pc := 103) o dX9_copy_103 0 rfl ?_
              refine g_callVi (pc := 104) o (c_finding 0 (by decide) h) mt_X9_finding mv_X9_finding lk_X9_58 rfl rfl rfl (by decide) rfl (Nat.le_of_ble_eq_true rfl) dX9_copy_104 ?_
              exact g_iret o ρ dX9_copy_107 (Po.eq (if_neg (fun z => bI_0.mp c84 z.1)) (Po_fnd C (by decide)))
            · skip
              refine g_aload_n (pc := 87) o dX9_copy_87 rfl ?_
              refine g_getR (pc := 88) o 5 rfl rfl rfl inX9 (by decide) lf_X9_33 dX9_copy_88 ?_
              refine g_iload_n (pc := 91) o dX9_copy_91 rfl ?_
              refine g_iload (pc := 92) o dX9_copy_92 rfl ?_
              refine g_iload (pc := 94) o dX9_copy_94 rfl ?_
              refine g_callVi (pc := 96) o (c_hasPart C u (by omega) g n) mt_X4_hasPart mv_X4_hasPart lk_X9_320 rfl rfl rfl (by decide) rfl (Nat.le_of_ble_eq_true rfl) dX9_copy_96 ?_
              refine g_if_ne (pc := 99) o 108 dX9_copy_99 (by decide) (fun c99 => ?_) (fun c99 => ?_)
              · skip
                have p1 := bI_n0.mp c84
                have p2 := bI_n0.mp c99
                rw [if_pos ⟨p1, p2⟩] at ρ
                rw [em] at p1
                rw [ew] at p2
                obtain ⟨x, b, rfl, rfl, l1, e1, e2⟩ := part_N hm p1
                obtain ⟨y, b2, rfl, eb, l2, e3, e4⟩ := part_N hw p2
                have eb2 : b2 = b := e4.symm.trans e2
                subst eb2
                rw [e1, e2, e3] at ρ
                refine g_aload_n (pc := 108) o dX9_copy_108 rfl ?_
                refine g_getR (pc := 109) o 5 rfl rfl rfl inX9 (by decide) lf_X9_33 dX9_copy_109 ?_
                refine g_iload_n (pc := 112) o dX9_copy_112 rfl ?_
                refine g_iload_n (pc := 113) o dX9_copy_113 rfl ?_
                refine g_iload_n (pc := 114) o dX9_copy_114 rfl ?_
                refine g_iload (pc := 115) o dX9_copy_115 rfl ?_
                refine g_iload (pc := 117) o dX9_copy_117 rfl ?_
                refine g_callVv (pc := 119) o (c_move k x u y b2 (by omega) (by omega)) mt_X4_move mv_X4_move lk_X9_323 rfl rfl rfl (by decide) rfl (Nat.le_of_ble_eq_true rfl) dX9_copy_119 ?_
                refine g_iload (pc := 122) o dX9_copy_122 rfl ?_
                exact g_iret o ρ dX9_copy_124 (Po.mk rfl (CR_7f C (fun j hj => by rw [mcp_same]; unfold va_cpy; split; exact C.b7 _ (by omega); exact C.b7 j hj) (fun c hc => mcp_ne _ _ _ _ hc)) (fun c hc => mcp_ne _ _ _ _ (by omega)))
              · skip
                refine g_aload_n (pc := 102) o dX9_copy_102 rfl ?_
                refine g_iconst (pc := 103) o dX9_copy_103 0 rfl ?_
                refine g_callVi (pc := 104) o (c_finding 0 (by decide) h) mt_X9_finding mv_X9_finding lk_X9_58 rfl rfl rfl (by decide) rfl (Nat.le_of_ble_eq_true rfl) dX9_copy_104 ?_
                exact g_iret o ρ dX9_copy_107 (Po.eq (if_neg (fun z => bI_0.mp c99 z.2)) (Po_fnd C (by decide)))
          · skip
            refine g_aload_n (pc := 67) o dX9_copy_67 rfl ?_
            refine g_iconst (pc := 68) o dX9_copy_68 2 rfl ?_
            refine g_callVi (pc := 69) o (c_finding 2 (by decide) h) mt_X9_finding mv_X9_finding lk_X9_58 rfl rfl rfl (by decide) rfl (Nat.le_of_ble_eq_true rfl) dX9_copy_69 ?_
            exact g_iret o ρ dX9_copy_72 (Po.eq (if_neg (fun z => c64 z)) (Po_fnd C (by decide)))
        · skip
          refine g_aload_n (pc := 42) o dX9_copy_42 rfl ?_
          refine g_iconst (pc := 43) o dX9_copy_43 5 rfl ?_
          refine g_callVi (pc := 44) o (c_finding 5 (by decide) h) mt_X9_finding mv_X9_finding lk_X9_58 rfl rfl rfl (by decide) rfl (Nat.le_of_ble_eq_true rfl) dX9_copy_44 ?_
          exact g_iret o ρ dX9_copy_47 (Po.eq (if_neg (fun z => (by exact z.2 (bI_n0.mp c39)))) (Po_fnd C (by decide)))
    · skip
      refine g_aload_n (pc := 14) o dX9_copy_14 rfl ?_
      refine g_iconst (pc := 15) o dX9_copy_15 0 rfl ?_
      refine g_callVi (pc := 16) o (c_finding 0 (by decide) h) mt_X9_finding mv_X9_finding lk_X9_58 rfl rfl rfl (by decide) rfl (Nat.le_of_ble_eq_true rfl) dX9_copy_16 ?_
      exact g_iret o ρ dX9_copy_19 (Po.eq (if_neg (fun z => bI_0.mp c11 z.2)) (Po_fnd C (by decide)))
/-! the model's -/
theorem cpy_s (f : Nat → Int32) (sp dp i : Nat) : upd (va_cpy f f sp dp i) (dp + i) (f (sp + i)) = va_cpy f f sp dp (i + 1) := by
  funext k
  unfold upd va_cpy
  by_cases e : k = dp + i
  · rw [if_pos e, if_pos (by omega), e]; congr 1; omega
  · rw [if_neg e]
    by_cases q : dp ≤ k ∧ k < dp + i
    · rw [if_pos q, if_pos (by omega)]
    · rw [if_neg q, if_neg (by omega)]
theorem cpy_0 (f : Nat → Int32) (sp dp : Nat) : va_cpy f f sp dp 0 = f := by
  funext k
  unfold va_cpy
  rw [if_neg (by omega)]
theorem mix (k a i : Nat) : nI 40 * nI k + nI a + nI i = nI (k * 40 + a + i) := by rw [pk_mul, nI_add, nI_add, Nat.mul_comm]
set_option maxRecDepth 100000 in
theorem lp_copy2 {Γ : Fr} (o : ca_O Γ cX10_copy 7 RX10 2 45) {Pr : Option Value → Mem → Prop} (ρ : ca_R Γ (some .int) Pr) {h0 : Mem} (k a t b n : Nat) (hn : n ≤ 40) (h2 : t * 40 + b + n ≤ 160) (hp : ∀ h2 : Mem, h2.1 69 = va_cpy (h0.1 69) (h0.1 69) (k * 40 + a) (t * 40 + b) n → (∀ c, c ≠ 69 → h2.1 c = h0.1 c) → Pr (some (.int (nI n))) h2) (mv : ∀ i, i < n → h0.1 70 i = h0.1 69 (k * 40 + a + i)) : ∀ i, i ≤ n → ∀ (xi : Int32) (h : Mem), xi = nI i → h.1 69 = va_cpy (h0.1 69) (h0.1 69) (k * 40 + a) (t * 40 + b) i → (∀ c, c ≠ 69 → h.1 c = h0.1 c) → ca_G Γ 7 h 158 [some (.ref 51), some (.int (nI k)), some (.int (nI a)), some (.int (nI t)), some (.int (nI b)), some (.int (nI n)), some (.int xi)] [] := by
  refine downI n (fun i hi ih => ?_)
  rintro xi h rfl e1 e2
  refine g_iload (pc := 158) o dX10_copy_158 rfl ?_
  refine g_iload (pc := 160) o dX10_copy_160 rfl ?_
  refine g_ic_ge (pc := 162) o 193 dX10_copy_162 (by decide) (fun c162 => ?_) (fun c162 => ?_)
  · skip
    have e : i = n := ge8 (n := n) (by omega) (by omega) c162
    subst e
    refine g_iload (pc := 193) o dX10_copy_193 rfl ?_
    exact g_iret o ρ dX10_copy_195 (hp h e1 e2)
  · skip
    have e : i < n := lt8 (n := n) (by omega) (by omega) c162
    have mvi : h.1 70 i = h0.1 69 (k * 40 + a + i) := by rw [e2 70 (by decide)]; exact mv i e
    refine g_aload_n (pc := 165) o dX10_copy_165 rfl ?_
    refine g_getR (pc := 166) o 27 rfl rfl rfl inX10 (by decide) lf_X10_62 dX10_copy_166 ?_
    refine g_bipush (pc := 169) o dX10_copy_169 40 rfl ?_
    refine g_iload_n (pc := 171) o dX10_copy_171 rfl ?_
    refine g_imul (pc := 172) o dX10_copy_172 ?_
    refine g_iload (pc := 173) o dX10_copy_173 rfl ?_
    refine g_iadd (pc := 175) o dX10_copy_175 ?_
    refine g_iload (pc := 176) o dX10_copy_176 rfl ?_
    refine g_iadd (pc := 178) o dX10_copy_178 ?_
    refine g_aload_n (pc := 179) o dX10_copy_179 rfl ?_
    refine g_getR (pc := 180) o 28 rfl rfl rfl inX10 (by decide) lf_X10_65 dX10_copy_180 ?_
    refine g_iload (pc := 183) o dX10_copy_183 rfl ?_
    refine n_ialdE (pc := 185) o i (rfl) rfl ((by omega)) (by decide) (mvi) dX10_copy_185 ?_
    refine n_iast (pc := 186) o (t * 40 + b + i) (mix t b i) rfl ((by omega)) (by decide) dX10_copy_186 ?_
    refine g_iinc (pc := 187) o dX10_copy_187 rfl 1 rfl (by decide) ?_
    show ca_G Γ 7 _ _ [_, _, _, _, _, _, _] _
    refine g_goto (pc := 190) o 158 dX10_copy_190 (by decide) ?_
    exact ih e _ _ (nI_1 i) (by rw [mw_same, e1]; exact cpy_s _ _ _ _) (fun c hc => (mw_ne _ _ _ hc).trans (e2 c hc))
set_option maxRecDepth 100000 in
theorem lp_copy1 {Γ : Fr} (o : ca_O Γ cX10_copy 7 RX10 2 45) {Pr : Option Value → Mem → Prop} (ρ : ca_R Γ (some .int) Pr) {h0 : Mem} (k a t b n : Nat) (hn : n ≤ 40) (h1 : k * 40 + a + n ≤ 160) (h2 : t * 40 + b + n ≤ 160) (hp : ∀ h2 : Mem, h2.1 69 = va_cpy (h0.1 69) (h0.1 69) (k * 40 + a) (t * 40 + b) n → (∀ c, c ≠ 69 → c ≠ 70 → h2.1 c = h0.1 c) → Pr (some (.int (nI n))) h2) : ∀ i, i ≤ n → ∀ (xi : Int32) (h : Mem), xi = nI i → (∀ j, j < i → h.1 70 j = h0.1 69 (k * 40 + a + j)) → (∀ c, c ≠ 70 → h.1 c = h0.1 c) → ca_G Γ 7 h 121 [some (.ref 51), some (.int (nI k)), some (.int (nI a)), some (.int (nI t)), some (.int (nI b)), some (.int (nI n)), some (.int xi)] [] := by
  refine downI n (fun i hi ih => ?_)
  rintro xi h rfl e1 e2
  have e69 := e2 69 (by decide)
  refine g_iload (pc := 121) o dX10_copy_121 rfl ?_
  refine g_iload (pc := 123) o dX10_copy_123 rfl ?_
  refine g_ic_ge (pc := 125) o 155 dX10_copy_125 (by decide) (fun c125 => ?_) (fun c125 => ?_)
  · skip
    have e : i = n := ge8 (n := n) (by omega) (by omega) c125
    subst e
    refine g_iconst (pc := 155) o dX10_copy_155 0 rfl ?_
    refine g_istore (pc := 156) o dX10_copy_156 (by decide) ?_
    show ca_G Γ 7 _ _ [_, _, _, _, _, _, _] _
    exact lp_copy2 o ρ (h0 := h) k a t b i hn h2 (fun h2 g1 g2 => hp h2 (by rw [g1, e69]) (fun c c1 c2 => (g2 c c1).trans (e2 c c2))) (fun j hj => by rw [e69]; exact e1 j hj) 0 (by omega) 0 h rfl (cpy_0 _ _ _).symm (fun _ _ => rfl)
  · skip
    have e : i < n := lt8 (n := n) (by omega) (by omega) c125
    have rd : h.1 69 (k * 40 + a + i) = h0.1 69 (k * 40 + a + i) := by rw [e69]
    refine g_aload_n (pc := 128) o dX10_copy_128 rfl ?_
    refine g_getR (pc := 129) o 28 rfl rfl rfl inX10 (by decide) lf_X10_65 dX10_copy_129 ?_
    refine g_iload (pc := 132) o dX10_copy_132 rfl ?_
    refine g_aload_n (pc := 134) o dX10_copy_134 rfl ?_
    refine g_getR (pc := 135) o 27 rfl rfl rfl inX10 (by decide) lf_X10_62 dX10_copy_135 ?_
    refine g_bipush (pc := 138) o dX10_copy_138 40 rfl ?_
    refine g_iload_n (pc := 140) o dX10_copy_140 rfl ?_
    refine g_imul (pc := 141) o dX10_copy_141 ?_
    refine g_iload_n (pc := 142) o dX10_copy_142 rfl ?_
    refine g_iadd (pc := 143) o dX10_copy_143 ?_
    refine g_iload (pc := 144) o dX10_copy_144 rfl ?_
    refine g_iadd (pc := 146) o dX10_copy_146 ?_
    refine n_ialdE (pc := 147) o (k * 40 + a + i) (mix k a i) rfl ((by omega)) (by decide) (rd) dX10_copy_147 ?_
    refine n_iast (pc := 148) o i (rfl) rfl ((by omega)) (by decide) dX10_copy_148 ?_
    refine g_iinc (pc := 149) o dX10_copy_149 rfl 1 rfl (by decide) ?_
    show ca_G Γ 7 _ _ [_, _, _, _, _, _, _] _
    refine g_goto (pc := 152) o 121 dX10_copy_152 (by decide) ?_
    refine ih e _ _ (nI_1 i) (fun j hj => ?_) (fun c hc => (mw_ne _ _ _ hc).trans (e2 c hc))
    rw [mw_same]
    unfold upd
    split
    · rename_i z; rw [z]
    · exact e1 j (by omega)
set_option maxRecDepth 100000 in
set_option maxHeartbeats 400000 in
theorem mo_copy {h : Mem} (I : Iv (absM h)) (a f t g n : Int32) : Ct yX10_copy cX10_copy 7 (some .int) 2 45 [.ref 51, .int a, .int f, .int t, .int g, .int n] h (Pm h (op_copy a f t g n (absM h))) := by
  refine Ct.of (by decide) (Nat.le_of_ble_eq_true rfl) (fun Γ o ρ => ?_)
  show ca_G Γ 7 _ _ [_, _, _, _, _, _, _] _
  refine g_iload_n (pc := 0) o dX10_copy_0 rfl ?_
  refine g_callSi (pc := 1) o (m_isOne a h) mt_X10_isOne ms_X10_isOne lk_X10_311 rfl (by decide) rfl (Nat.le_of_ble_eq_true rfl) dX10_copy_1 ?_
  refine g_if_eq (pc := 4) o 14 dX10_copy_4 (by decide) (fun c4 => ?_) (fun c4 => ?_)
  · skip
    refine g_aload_n (pc := 14) o dX10_copy_14 rfl ?_
    refine g_ldc (pc := 15) o dX10_copy_15 lc_X10_68 ?_
    refine g_callVi (pc := 17) o (m_finds 0 (by decide) h) mt_X10_finds mv_X10_finds lk_X10_86 rfl rfl rfl (by decide) rfl (Nat.le_of_ble_eq_true rfl) dX10_copy_17 ?_
    exact g_iret o ρ dX10_copy_20 (Pm.eq (if_neg (fun z => bI_0.mp c4 z.1)) (Pm_fnd rfl (kC.rf h) (by decide)))
  · skip
    refine g_iload_n (pc := 7) o dX10_copy_7 rfl ?_
    refine g_callSi (pc := 8) o (m_isOne t h) mt_X10_isOne ms_X10_isOne lk_X10_311 rfl (by decide) rfl (Nat.le_of_ble_eq_true rfl) dX10_copy_8 ?_
    refine g_if_ne (pc := 11) o 21 dX10_copy_11 (by decide) (fun c11 => ?_) (fun c11 => ?_)
    · skip
      have eq : op_copy a f t g n (absM h) = if ¬ h.1 67 (ca_n a) = 0 ∧ ¬ h.1 67 (ca_n t) = 0 then (if h.1 67 (ca_n a) = h.1 67 (ca_n t) then (if partF (h.1 68 (ca_n a)) f n ∧ partF (h.1 68 (ca_n t)) g n then (n, sf (absM h) 7 (va_cpy (h.1 69) (h.1 69) (ca_n a * 40 + ca_n f) (ca_n t * 40 + ca_n g) (ca_n n))) else fnd (absM h) 0) else fnd (absM h) 2) else fnd (absM h) 5 := if_pos ⟨bI_n0.mp c4, bI_n0.mp c11⟩
      rw [eq] at ρ
      obtain ⟨k, hk, rfl, ek⟩ := n_of (x := a) (b := 3) (bI_n0.mp c4) (by decide)
      obtain ⟨u, hu, rfl, eu⟩ := n_of (x := t) (b := 3) (bI_n0.mp c11) (by decide)
      rw [ek, eu] at ρ
      clear eq
      obtain ⟨m, hm, em, -⟩ := I.sz k (by omega)
      obtain ⟨w, hw, ew, -⟩ := I.sz u (by omega)
      have em : h.1 68 k = nI m := em
      have ew : h.1 68 u = nI w := ew
      refine g_aload_n (pc := 21) o dX10_copy_21 rfl ?_
      refine g_getR (pc := 22) o 25 rfl rfl rfl inX10 (by decide) lf_X10_56 dX10_copy_22 ?_
      refine g_iload_n (pc := 25) o dX10_copy_25 rfl ?_
      refine n_iald (pc := 26) o k (rfl) rfl ((by omega)) (by decide) dX10_copy_26 ?_
      refine g_if_eq (pc := 27) o 39 dX10_copy_27 (by decide) (fun c27 => ?_) (fun c27 => ?_)
      · skip
        refine g_aload_n (pc := 39) o dX10_copy_39 rfl ?_
        refine g_ldcw (pc := 40) o dX10_copy_40 lc_X10_306 ?_
        refine g_callVi (pc := 43) o (m_finds 5 (by decide) h) mt_X10_finds mv_X10_finds lk_X10_86 rfl rfl rfl (by decide) rfl (Nat.le_of_ble_eq_true rfl) dX10_copy_43 ?_
        exact g_iret o ρ dX10_copy_46 (Pm.eq (if_neg (fun z => z.1 c27)) (Pm_fnd rfl (kC.rf h) (by decide)))
      · skip
        refine g_aload_n (pc := 30) o dX10_copy_30 rfl ?_
        refine g_getR (pc := 31) o 25 rfl rfl rfl inX10 (by decide) lf_X10_56 dX10_copy_31 ?_
        refine g_iload_n (pc := 34) o dX10_copy_34 rfl ?_
        refine n_iald (pc := 35) o u (rfl) rfl ((by omega)) (by decide) dX10_copy_35 ?_
        refine g_if_ne (pc := 36) o 47 dX10_copy_36 (by decide) (fun c36 => ?_) (fun c36 => ?_)
        · skip
          rw [if_pos ⟨c27, c36⟩] at ρ
          refine g_aload_n (pc := 47) o dX10_copy_47 rfl ?_
          refine g_getR (pc := 48) o 25 rfl rfl rfl inX10 (by decide) lf_X10_56 dX10_copy_48 ?_
          refine g_iload_n (pc := 51) o dX10_copy_51 rfl ?_
          refine n_iald (pc := 52) o k (rfl) rfl ((by omega)) (by decide) dX10_copy_52 ?_
          refine g_aload_n (pc := 53) o dX10_copy_53 rfl ?_
          refine g_getR (pc := 54) o 25 rfl rfl rfl inX10 (by decide) lf_X10_56 dX10_copy_54 ?_
          refine g_iload_n (pc := 57) o dX10_copy_57 rfl ?_
          refine n_iald (pc := 58) o u (rfl) rfl ((by omega)) (by decide) dX10_copy_58 ?_
          refine g_ic_eq (pc := 59) o 70 dX10_copy_59 (by decide) (fun c59 => ?_) (fun c59 => ?_)
          · skip
            rw [if_pos c59] at ρ
            refine g_iload_n (pc := 70) o dX10_copy_70 rfl ?_
            refine g_if_lt (pc := 71) o 111 dX10_copy_71 (by decide) (fun c71 => ?_) (fun c71 => ?_)
            · skip
              refine g_aload_n (pc := 111) o dX10_copy_111 rfl ?_
              refine g_ldc (pc := 112) o dX10_copy_112 lc_X10_68 ?_
              refine g_callVi (pc := 114) o (m_finds 0 (by decide) h) mt_X10_finds mv_X10_finds lk_X10_86 rfl rfl rfl (by decide) rfl (Nat.le_of_ble_eq_true rfl) dX10_copy_114 ?_
              exact g_iret o ρ dX10_copy_117 (Pm.eq (if_neg (fun z => Int32.not_lt.mpr z.1.1 c71)) (Pm_fnd rfl (kC.rf h) (by decide)))
            · skip
              refine g_iload (pc := 74) o dX10_copy_74 rfl ?_
              refine g_if_lt (pc := 76) o 111 dX10_copy_76 (by decide) (fun c76 => ?_) (fun c76 => ?_)
              · skip
                refine g_aload_n (pc := 111) o dX10_copy_111 rfl ?_
                refine g_ldc (pc := 112) o dX10_copy_112 lc_X10_68 ?_
                refine g_callVi (pc := 114) o (m_finds 0 (by decide) h) mt_X10_finds mv_X10_finds lk_X10_86 rfl rfl rfl (by decide) rfl (Nat.le_of_ble_eq_true rfl) dX10_copy_114 ?_
                exact g_iret o ρ dX10_copy_117 (Pm.eq (if_neg (fun z => Int32.not_lt.mpr z.2.1 c76)) (Pm_fnd rfl (kC.rf h) (by decide)))
              · skip
                refine g_iload (pc := 79) o dX10_copy_79 rfl ?_
                refine g_if_lt (pc := 81) o 111 dX10_copy_81 (by decide) (fun c81 => ?_) (fun c81 => ?_)
                · skip
                  refine g_aload_n (pc := 111) o dX10_copy_111 rfl ?_
                  refine g_ldc (pc := 112) o dX10_copy_112 lc_X10_68 ?_
                  refine g_callVi (pc := 114) o (m_finds 0 (by decide) h) mt_X10_finds mv_X10_finds lk_X10_86 rfl rfl rfl (by decide) rfl (Nat.le_of_ble_eq_true rfl) dX10_copy_114 ?_
                  exact g_iret o ρ dX10_copy_117 (Pm.eq (if_neg (fun z => Int32.not_lt.mpr z.1.2.1 c81)) (Pm_fnd rfl (kC.rf h) (by decide)))
                · skip
                  refine g_iload (pc := 84) o dX10_copy_84 rfl ?_
                  refine g_aload_n (pc := 86) o dX10_copy_86 rfl ?_
                  refine g_getR (pc := 87) o 26 rfl rfl rfl inX10 (by decide) lf_X10_59 dX10_copy_87 ?_
                  refine g_iload_n (pc := 90) o dX10_copy_90 rfl ?_
                  refine n_iald (pc := 91) o k (rfl) rfl ((by omega)) (by decide) dX10_copy_91 ?_
                  refine g_iload_n (pc := 92) o dX10_copy_92 rfl ?_
                  refine g_isub (pc := 93) o dX10_copy_93 ?_
                  refine g_ic_gt (pc := 94) o 111 dX10_copy_94 (by decide) (fun c94 => ?_) (fun c94 => ?_)
                  · skip
                    refine g_aload_n (pc := 111) o dX10_copy_111 rfl ?_
                    refine g_ldc (pc := 112) o dX10_copy_112 lc_X10_68 ?_
                    refine g_callVi (pc := 114) o (m_finds 0 (by decide) h) mt_X10_finds mv_X10_finds lk_X10_86 rfl rfl rfl (by decide) rfl (Nat.le_of_ble_eq_true rfl) dX10_copy_114 ?_
                    exact g_iret o ρ dX10_copy_117 (Pm.eq (if_neg (fun z => Int32.not_lt.mpr z.1.2.2 c94)) (Pm_fnd rfl (kC.rf h) (by decide)))
                  · skip
                    refine g_iload (pc := 97) o dX10_copy_97 rfl ?_
                    refine g_aload_n (pc := 99) o dX10_copy_99 rfl ?_
                    refine g_getR (pc := 100) o 26 rfl rfl rfl inX10 (by decide) lf_X10_59 dX10_copy_100 ?_
                    refine g_iload_n (pc := 103) o dX10_copy_103 rfl ?_
                    refine n_iald (pc := 104) o u (rfl) rfl ((by omega)) (by decide) dX10_copy_104 ?_
                    refine g_iload (pc := 105) o dX10_copy_105 rfl ?_
                    refine g_isub (pc := 107) o dX10_copy_107 ?_
                    refine g_ic_le (pc := 108) o 118 dX10_copy_108 (by decide) (fun c108 => ?_) (fun c108 => ?_)
                    · skip
                      have p1 : partF (h.1 68 k) f n := ⟨Int32.not_lt.mp c71, Int32.not_lt.mp c81, Int32.not_lt.mp c94⟩
                      have p2 : partF (h.1 68 u) g n := ⟨Int32.not_lt.mp c76, Int32.not_lt.mp c81, c108⟩
                      rw [if_pos ⟨p1, p2⟩] at ρ
                      rw [em] at p1
                      rw [ew] at p2
                      obtain ⟨x, b, rfl, rfl, l1, e1, e2⟩ := part_N hm p1
                      obtain ⟨y, b2, rfl, eb, l2, e3, e4⟩ := part_N hw p2
                      have eb2 : b2 = b := e4.symm.trans e2
                      subst eb2
                      rw [e1, e2, e3] at ρ
                      refine g_iconst (pc := 118) o dX10_copy_118 0 rfl ?_
                      refine g_istore (pc := 119) o dX10_copy_119 (by decide) ?_
                      show ca_G Γ 7 _ _ [_, _, _, _, _, _, _] _
                      refine lp_copy1 o ρ (h0 := h) k x u y b2 (by omega) (by omega) (by omega) (fun h2 g1 g2 => ?_) 0 (by omega) 0 h rfl (fun j hj => by omega) (fun _ _ => rfl)
                      refine Pm.mk rfl ?_ (fun c hc => g2 c (by omega) (by omega))
                      rw [← shS_7]
                      exact abs_sh (g2 67 (by decide) (by decide)) (g2 68 (by decide) (by decide)) g1 (fun c _ _ c3 c4 => g2 c c3 c4)

                    · skip
                      refine g_aload_n (pc := 111) o dX10_copy_111 rfl ?_
                      refine g_ldc (pc := 112) o dX10_copy_112 lc_X10_68 ?_
                      refine g_callVi (pc := 114) o (m_finds 0 (by decide) h) mt_X10_finds mv_X10_finds lk_X10_86 rfl rfl rfl (by decide) rfl (Nat.le_of_ble_eq_true rfl) dX10_copy_114 ?_
                      exact g_iret o ρ dX10_copy_117 (Pm.eq (if_neg (fun z => c108 z.2.2.2)) (Pm_fnd rfl (kC.rf h) (by decide)))
          · skip
            refine g_aload_n (pc := 62) o dX10_copy_62 rfl ?_
            refine g_ldcw (pc := 63) o dX10_copy_63 lc_X10_310 ?_
            refine g_callVi (pc := 66) o (m_finds 2 (by decide) h) mt_X10_finds mv_X10_finds lk_X10_86 rfl rfl rfl (by decide) rfl (Nat.le_of_ble_eq_true rfl) dX10_copy_66 ?_
            exact g_iret o ρ dX10_copy_69 (Pm.eq (if_neg (fun z => c59 z)) (Pm_fnd rfl (kC.rf h) (by decide)))
        · skip
          refine g_aload_n (pc := 39) o dX10_copy_39 rfl ?_
          refine g_ldcw (pc := 40) o dX10_copy_40 lc_X10_306 ?_
          refine g_callVi (pc := 43) o (m_finds 5 (by decide) h) mt_X10_finds mv_X10_finds lk_X10_86 rfl rfl rfl (by decide) rfl (Nat.le_of_ble_eq_true rfl) dX10_copy_43 ?_
          exact g_iret o ρ dX10_copy_46 (Pm.eq (if_neg (fun z => z.2 c36)) (Pm_fnd rfl (kC.rf h) (by decide)))
    · skip
      refine g_aload_n (pc := 14) o dX10_copy_14 rfl ?_
      refine g_ldc (pc := 15) o dX10_copy_15 lc_X10_68 ?_
      refine g_callVi (pc := 17) o (m_finds 0 (by decide) h) mt_X10_finds mv_X10_finds lk_X10_86 rfl rfl rfl (by decide) rfl (Nat.le_of_ble_eq_true rfl) dX10_copy_17 ?_
      exact g_iret o ρ dX10_copy_20 (Pm.eq (if_neg (fun z => bI_0.mp c11 z.2)) (Pm_fnd rfl (kC.rf h) (by decide)))
