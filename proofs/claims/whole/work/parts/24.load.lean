/-! ===== load ===== -/
def ldL (f : Nat → Int32) (k sz : Nat) (p : Int32) (d : Nat) : Nat → Nat → (Nat → Int32) → Nat → (Nat → Int32) × Nat
  | 0, _, s, c => (s, c)
  | n + 1, m, s, c => if m < sz then (if f (k * 40 + m) = -1 then ldL f k sz p d n (m + 1) s c else if rng (f (k * 40 + m)) 0 7 ∧ (s 8).toInt < 60 then ldL f k sz p d n (m + 1) (sawS s (nSeen s) p (f (k * 40 + m)) (nI (100 * d + m))) (c + 1) else (s, c)) else (s, c)
theorem ldL_s (f : Nat → Int32) (k sz : Nat) (p : Int32) (d n m : Nat) (s : Nat → Int32) (c : Nat) : ldL f k sz p d (n + 1) m s c = if m < sz then (if f (k * 40 + m) = -1 then ldL f k sz p d n (m + 1) s c else if rng (f (k * 40 + m)) 0 7 ∧ (s 8).toInt < 60 then ldL f k sz p d n (m + 1) (sawS s (nSeen s) p (f (k * 40 + m)) (nI (100 * d + m))) (c + 1) else (s, c)) else (s, c) := rfl
theorem ldL_x (f : Nat → Int32) (k sz : Nat) (p : Int32) (d : Nat) (s : Nat → Int32) (c m : Nat) (hm : ¬ m < sz) : ∀ n, ldL f k sz p d n m s c = (s, c)
  | 0 => rfl
  | n + 1 => by rw [ldL_s, if_neg hm]
def ldR (σ : Sg) (k : Nat) (p : Int32) (d : Nat) : (Nat → Int32) × Nat := ldL (σ 7) k (ca_n (σ 6 k)) p d 24 0 (σ 0) 0
def op_load (a p d : Int32) (σ : Sg) : Int32 × Sg := if rng a 0 3 then (if ¬ σ 5 (ca_n a) = 0 then (if rng p 0 5 ∧ rng d 0 29 then (nI (ldR σ (ca_n a) p (ca_n d)).2, sf σ 0 (ldR σ (ca_n a) p (ca_n d)).1) else fnd σ 0) else fnd σ 5) else fnd σ 0
set_option maxRecDepth 100000 in
set_option maxHeartbeats 400000 in
theorem lp_load {Γ : Fr} (o : ca_O Γ cX9_load 7 RX9 1 25) {h0 : Mem} {q : Int32 × Sg} (ρ : ca_R Γ (some .int) (Po h0 q)) {σ : Sg} (k sz : Nat) (hk : k < 4) (hsz : sz ≤ 40) (es : σ 6 k = nI sz) (p : Int32) (d : Nat) (hd : d < 30) : ∀ m, m ≤ 24 → ∀ (xm xc : Int32) (h : Mem) (s : Nat → Int32) (c : Nat) (j6 : Option Value), xm = nI m → xc = nI c → CR h (sf σ 0 s) → kM h0 h → ok8 s → (nI (ldL (σ 7) k sz p d (24 - m) m s c).2, sf σ 0 (ldL (σ 7) k sz p d (24 - m) m s c).1) = q → ca_G Γ 7 h 56 [some (.ref 0), some (.int (nI k)), some (.int p), some (.int (nI d)), some (.int xc), some (.int xm), j6] [] := by
  refine downI 24 (fun m hm ih => ?_)
  rintro xm xc h s c j6 rfl rfl C hM ⟨o1, o2, o3⟩ e
  have b6 : h.1 36 k = nI sz := (C.b6 k hk).trans es
  refine g_iload (pc := 56) o dX9_load_56 rfl ?_
  refine g_bipush (pc := 58) o dX9_load_58 24 rfl ?_
  refine g_ic_ge (pc := 60) o 147 dX9_load_60 (by decide) (fun c60 => ?_) (fun c60 => ?_)
  · skip
    have e1 : m = 24 := ge8 (n := 24) (by omega) (by omega) c60
    subst e1
    refine g_iload (pc := 147) o dX9_load_147 rfl ?_
    exact g_iret o ρ dX9_load_149 (Po.eq e.symm (Po.mk rfl C hM))
  · skip
    have e1 : m < 24 := lt8 (n := 24) (by omega) (by omega) c60
    have b7 : Ct yX4_get cX4_get 3 (some .int) 0 0 [.ref 34, .int (nI k), .int (nI m)] h (Ei (σ 7 (k * 40 + m)) h) := c_shget C k m hk (by omega)
    rw [show 24 - m = (24 - (m + 1)) + 1 by omega, ldL_s] at e
    refine g_iload (pc := 63) o dX9_load_63 rfl ?_
    refine g_aload_n (pc := 65) o dX9_load_65 rfl ?_
    refine g_getR (pc := 66) o 5 rfl rfl rfl inX9 (by decide) lf_X9_33 dX9_load_66 ?_
    refine g_iload_n (pc := 69) o dX9_load_69 rfl ?_
    refine g_callVi (pc := 70) o (c_shsize k hk b6) mt_X4_size mv_X4_size lk_X9_309 rfl rfl rfl (by decide) rfl (Nat.le_of_ble_eq_true rfl) dX9_load_70 ?_
    refine g_ic_ge (pc := 73) o 147 dX9_load_73 (by decide) (fun c73 => ?_) (fun c73 => ?_)
    · skip
      have e2 : ¬ m < sz := by have := (nI_leI (by omega) (by omega)).mp c73; omega
      rw [if_neg e2] at e
      refine g_iload (pc := 147) o dX9_load_147 rfl ?_
      exact g_iret o ρ dX9_load_149 (Po.eq e.symm (Po.mk rfl C hM))
    · skip
      have e2 : m < sz := by have := mt (nI_leI (a := sz) (b := m) (by omega) (by omega)).mpr c73; omega
      rw [if_pos e2] at e
      refine g_aload_n (pc := 76) o dX9_load_76 rfl ?_
      refine g_getR (pc := 77) o 5 rfl rfl rfl inX9 (by decide) lf_X9_33 dX9_load_77 ?_
      refine g_iload_n (pc := 80) o dX9_load_80 rfl ?_
      refine g_iload (pc := 81) o dX9_load_81 rfl ?_
      refine g_callVi (pc := 83) o (b7) mt_X4_get mv_X4_get lk_X9_327 rfl rfl rfl (by decide) rfl (Nat.le_of_ble_eq_true rfl) dX9_load_83 ?_
      refine g_istore (pc := 86) o dX9_load_86 (by decide) ?_
      show ca_G Γ 7 _ _ [_, _, _, _, _, _, _] _
      refine g_iload (pc := 88) o dX9_load_88 rfl ?_
      refine g_iconst (pc := 90) o dX9_load_90 (-1) rfl ?_
      refine g_ic_ne (pc := 91) o 97 dX9_load_91 (by decide) (fun c91 => ?_) (fun c91 => ?_)
      · skip
        rw [if_neg c91] at e
        refine g_iload (pc := 97) o dX9_load_97 rfl ?_
        refine g_callSi (pc := 99) o (c_isPlace (σ 7 (k * 40 + m)) h) mt_X9_isPlace ms_X9_isPlace lk_X9_54 rfl (by decide) rfl (Nat.le_of_ble_eq_true rfl) dX9_load_99 ?_
        refine g_if_eq (pc := 102) o 147 dX9_load_102 (by decide) (fun c102 => ?_) (fun c102 => ?_)
        · skip
          rw [if_neg (fun z => bI_0.mp c102 z.1)] at e
          refine g_iload (pc := 147) o dX9_load_147 rfl ?_
          exact g_iret o ρ dX9_load_149 (Po.eq e.symm (Po.mk rfl C hM))
        · skip
          refine g_aload_n (pc := 105) o dX9_load_105 rfl ?_
          refine g_getR (pc := 106) o 0 rfl rfl rfl inX9 (by decide) lf_X9_10 dX9_load_106 ?_
          refine g_getR (pc := 109) o 1 rfl rfl rfl inX0 (by decide) lf_X9_89 dX9_load_109 ?_
          refine g_callVi (pc := 112) o (c_hasRoom C.1) mt_X5_hasRoom mv_X5_hasRoom lk_X9_93 rfl rfl rfl (by decide) rfl (Nat.le_of_ble_eq_true rfl) dX9_load_112 ?_
          refine g_if_ne (pc := 115) o 121 dX9_load_115 (by decide) (fun c115 => ?_) (fun c115 => ?_)
          · skip
            have c115 : (s 8).toInt < 60 := bI_n0.mp c115
            rw [if_pos ⟨bI_n0.mp c102, c115⟩] at e
            have w := wq d m (by omega) (by omega)
            refine g_aload_n (pc := 121) o dX9_load_121 rfl ?_
            refine g_getR (pc := 122) o 0 rfl rfl rfl inX9 (by decide) lf_X9_10 dX9_load_122 ?_
            refine g_getR (pc := 125) o 1 rfl rfl rfl inX0 (by decide) lf_X9_89 dX9_load_125 ?_
            refine g_iload_n (pc := 128) o dX9_load_128 rfl ?_
            refine g_iload (pc := 129) o dX9_load_129 rfl ?_
            refine g_iload_n (pc := 131) o dX9_load_131 rfl ?_
            refine g_iload (pc := 132) o dX9_load_132 rfl ?_
            refine g_callVi (pc := 134) o (c_sadd C.1 (n := nSeen s) (by omega) o2 p (σ 7 (k * 40 + m)) (nI d) (nI m)) mt_X5_add mv_X5_add lk_X9_105 rfl rfl rfl (by decide) rfl (Nat.le_of_ble_eq_true rfl) dX9_load_134 ?_
            refine g_pop (pc := 137) o dX9_load_137 rfl ?_
            refine g_iinc (pc := 138) o dX9_load_138 rfl 1 rfl (by decide) ?_
            show ca_G Γ 7 _ _ [_, _, _, _, _, _, _] _
            refine g_iinc (pc := 141) o dX9_load_141 rfl 1 rfl (by decide) ?_
            show ca_G Γ 7 _ _ [_, _, _, _, _, _, _] _
            refine g_goto (pc := 144) o 56 dX9_load_144 (by decide) ?_
            exact ih e1 _ _ _ _ _ _ (nI_1 m) (nI_1 c) (CR_saw2 C (by omega) p _ (nI (100 * d + m)) _ _ w.1.symm w.2.symm) (kM_saw hM) (ok8_of (n := nSeen s + 1) (by omega) (nI_1 _)).1 e
          · skip
            have c115 : ¬ (s 8).toInt < 60 := bI_0.mp c115
            rw [if_neg (fun z => c115 z.2)] at e
            refine g_goto (pc := 118) o 147 dX9_load_118 (by decide) ?_
            refine g_iload (pc := 147) o dX9_load_147 rfl ?_
            exact g_iret o ρ dX9_load_149 (Po.eq e.symm (Po.mk rfl C hM))
      · skip
        rw [if_pos c91] at e
        refine g_goto (pc := 94) o 141 dX9_load_94 (by decide) ?_
        refine g_iinc (pc := 141) o dX9_load_141 rfl 1 rfl (by decide) ?_
        show ca_G Γ 7 _ _ [_, _, _, _, _, _, _] _
        refine g_goto (pc := 144) o 56 dX9_load_144 (by decide) ?_
        exact ih e1 _ _ _ _ _ _ (nI_1 m) rfl C hM ⟨o1, o2, o3⟩ e
set_option maxRecDepth 100000 in
set_option maxHeartbeats 400000 in
theorem co_load {h : Mem} {σ : Sg} (C : CR h σ) (I : Iv σ) (a p d : Int32) : Ct yX9_load cX9_load 7 (some .int) 1 25 [.ref 0, .int a, .int p, .int d] h (Po h (op_load a p d σ)) := by
  refine Ct.of (by decide) (Nat.le_of_ble_eq_true rfl) (fun Γ o ρ => ?_)
  show ca_G Γ 7 _ _ [_, _, _, _, _, _, _] _
  refine g_iload_n (pc := 0) o dX9_load_0 rfl ?_
  refine g_callSi (pc := 1) o (c_isSheet a h) mt_X4_isSheet ms_X4_isSheet lk_X9_300 rfl (by decide) rfl (Nat.le_of_ble_eq_true rfl) dX9_load_1 ?_
  refine g_if_ne (pc := 4) o 13 dX9_load_4 (by decide) (fun c4 => ?_) (fun c4 => ?_)
  · skip
    have eq : op_load a p d σ = if ¬ σ 5 (ca_n a) = 0 then (if rng p 0 5 ∧ rng d 0 29 then (nI (ldR σ (ca_n a) p (ca_n d)).2, sf σ 0 (ldR σ (ca_n a) p (ca_n d)).1) else fnd σ 0) else fnd σ 5 := if_pos (bI_n0.mp c4)
    rw [eq] at ρ
    obtain ⟨k, hk, rfl, ek⟩ := n_of (x := a) (b := 3) (bI_n0.mp c4) (by decide)
    rw [ek] at ρ
    clear eq
    obtain ⟨m, hm, em, -⟩ := I.sz k (by omega)
    refine g_aload_n (pc := 13) o dX9_load_13 rfl ?_
    refine g_getR (pc := 14) o 5 rfl rfl rfl inX9 (by decide) lf_X9_33 dX9_load_14 ?_
    refine g_iload_n (pc := 17) o dX9_load_17 rfl ?_
    refine g_callVi (pc := 18) o (c_isMissing C k (by omega)) mt_X4_isMissing mv_X4_isMissing lk_X9_311 rfl rfl rfl (by decide) rfl (Nat.le_of_ble_eq_true rfl) dX9_load_18 ?_
    refine g_if_eq (pc := 21) o 30 dX9_load_21 (by decide) (fun c21 => ?_) (fun c21 => ?_)
    · skip
      rw [if_pos (bI_0.mp c21)] at ρ
      refine g_iload_n (pc := 30) o dX9_load_30 rfl ?_
      refine g_callSi (pc := 31) o (c_isPerson p h) mt_X9_isPerson ms_X9_isPerson lk_X9_83 rfl (by decide) rfl (Nat.le_of_ble_eq_true rfl) dX9_load_31 ?_
      refine g_if_eq (pc := 34) o 44 dX9_load_34 (by decide) (fun c34 => ?_) (fun c34 => ?_)
      · skip
        refine g_aload_n (pc := 44) o dX9_load_44 rfl ?_
        refine g_iconst (pc := 45) o dX9_load_45 0 rfl ?_
        refine g_callVi (pc := 46) o (c_finding 0 (by decide) h) mt_X9_finding mv_X9_finding lk_X9_58 rfl rfl rfl (by decide) rfl (Nat.le_of_ble_eq_true rfl) dX9_load_46 ?_
        exact g_iret o ρ dX9_load_49 (Po.eq (if_neg (fun z => bI_0.mp c34 z.1)) (Po_fnd C (by decide)))
      · skip
        refine g_iload_n (pc := 37) o dX9_load_37 rfl ?_
        refine g_callSi (pc := 38) o (c_isDay d h) mt_X9_isDay ms_X9_isDay lk_X9_126 rfl (by decide) rfl (Nat.le_of_ble_eq_true rfl) dX9_load_38 ?_
        refine g_if_ne (pc := 41) o 50 dX9_load_41 (by decide) (fun c41 => ?_) (fun c41 => ?_)
        · skip
          rw [if_pos ⟨bI_n0.mp c34, bI_n0.mp c41⟩] at ρ
          obtain ⟨dd, hd, rfl, ed⟩ := n_of (x := d) (b := 29) (bI_n0.mp c41) (by decide)
          rw [ed] at ρ
          have es : ca_n (σ 6 k) = m := by rw [em]; exact nI_clamp (by omega)
          refine g_iconst (pc := 50) o dX9_load_50 0 rfl ?_
          refine g_istore (pc := 51) o dX9_load_51 (by decide) ?_
          show ca_G Γ 7 _ _ [_, _, _, _, _, _, _] _
          refine g_iconst (pc := 53) o dX9_load_53 0 rfl ?_
          refine g_istore (pc := 54) o dX9_load_54 (by decide) ?_
          show ca_G Γ 7 _ _ [_, _, _, _, _, _, _] _
          exact lp_load o ρ (σ := σ) k m (by omega) hm em p dd (by omega) 0 (by omega) 0 0 h (σ 0) 0 _ rfl rfl (by rw [sf_id]; exact C) (kM.rf h) I.1.seen (by unfold ldR; rw [es])
        · skip
          refine g_aload_n (pc := 44) o dX9_load_44 rfl ?_
          refine g_iconst (pc := 45) o dX9_load_45 0 rfl ?_
          refine g_callVi (pc := 46) o (c_finding 0 (by decide) h) mt_X9_finding mv_X9_finding lk_X9_58 rfl rfl rfl (by decide) rfl (Nat.le_of_ble_eq_true rfl) dX9_load_46 ?_
          exact g_iret o ρ dX9_load_49 (Po.eq (if_neg (fun z => bI_0.mp c41 z.2)) (Po_fnd C (by decide)))
    · skip
      refine g_aload_n (pc := 24) o dX9_load_24 rfl ?_
      refine g_iconst (pc := 25) o dX9_load_25 5 rfl ?_
      refine g_callVi (pc := 26) o (c_finding 5 (by decide) h) mt_X9_finding mv_X9_finding lk_X9_58 rfl rfl rfl (by decide) rfl (Nat.le_of_ble_eq_true rfl) dX9_load_26 ?_
      exact g_iret o ρ dX9_load_29 (Po.eq (if_neg (fun z => z (bI_n0.mp c21))) (Po_fnd C (by decide)))
  · skip
    refine g_aload_n (pc := 7) o dX9_load_7 rfl ?_
    refine g_iconst (pc := 8) o dX9_load_8 0 rfl ?_
    refine g_callVi (pc := 9) o (c_finding 0 (by decide) h) mt_X9_finding mv_X9_finding lk_X9_58 rfl rfl rfl (by decide) rfl (Nat.le_of_ble_eq_true rfl) dX9_load_9 ?_
    exact g_iret o ρ dX9_load_12 (Po.eq (if_neg (fun z => bI_0.mp c4 z)) (Po_fnd C (by decide)))
set_option maxRecDepth 100000 in
set_option maxHeartbeats 400000 in
theorem lp_mload {Γ : Fr} (o : ca_O Γ cX10_load 9 RX10 3 66) {h0 : Mem} {q : Int32 × Sg} (ρ : ca_R Γ (some .int) (Pm h0 q)) (k sz : Nat) (hk : k < 4) (hsz : sz ≤ 40) (es : h0.1 68 k = nI sz) (p : Int32) (d : Nat) (hd : d < 30) (w4 : Int32) : ∀ m, m ≤ 24 → ∀ (xm xc : Int32) (h : Mem) (c : Nat) (j7 j8 : Option Value), xm = nI m → xc = nI c → offM h0 h → ok8 (h.1 52) → (nI (ldL (h0.1 69) k sz p d (24 - m) m (h.1 52) c).2, sf (absM h0) 0 (ldL (h0.1 69) k sz p d (24 - m) m (h.1 52) c).1) = q → ca_G Γ 9 h 46 [some (.ref 51), some (.int (nI k)), some (.int p), some (.int (nI d)), some (.int w4), some (.int xc), some (.int xm), j7, j8] [] := by
  refine downI 24 (fun m hm ih => ?_)
  rintro xm xc h c j7 j8 rfl rfl hM ⟨o1, o2, o3⟩ e
  have b6 : h.1 68 k = nI sz := by rw [hM 68 (by decide)]; exact es
  have b7 : h.1 69 (k * 40 + m) = h0.1 69 (k * 40 + m) := by rw [hM 69 (by decide)]
  have ni := in_rng (h0.1 69 (k * 40 + m)) (-1) 7 (by decide)
  refine g_iload (pc := 46) o dX10_load_46 rfl ?_
  refine g_aload_n (pc := 48) o dX10_load_48 rfl ?_
  refine g_getR (pc := 49) o 26 rfl rfl rfl inX10 (by decide) lf_X10_59 dX10_load_49 ?_
  refine g_iload_n (pc := 52) o dX10_load_52 rfl ?_
  refine n_ialdE (pc := 53) o k (rfl) rfl ((by omega)) (by decide) (b6) dX10_load_53 ?_
  refine g_ic_ge (pc := 54) o 143 dX10_load_54 (by decide) (fun c54 => ?_) (fun c54 => ?_)
  · skip
    have e2 : ¬ m < sz := by have := (nI_leI (by omega) (by omega)).mp c54; omega
    rw [ldL_x _ _ _ _ _ _ _ _ e2] at e
    refine g_iload (pc := 143) o dX10_load_143 rfl ?_
    exact g_iret o ρ dX10_load_145 (Pm.eq e.symm (Pm_s rfl hM))
  · skip
    have e2 : m < sz := by have := mt (nI_leI (a := sz) (b := m) (by omega) (by omega)).mpr c54; omega
    refine g_iload (pc := 57) o dX10_load_57 rfl ?_
    refine g_bipush (pc := 59) o dX10_load_59 24 rfl ?_
    refine g_ic_ge (pc := 61) o 143 dX10_load_61 (by decide) (fun c61 => ?_) (fun c61 => ?_)
    · skip
      have e1 : m = 24 := ge8 (n := 24) (by omega) (by omega) c61
      subst e1
      refine g_iload (pc := 143) o dX10_load_143 rfl ?_
      exact g_iret o ρ dX10_load_145 (Pm.eq e.symm (Pm_s rfl hM))
    · skip
      have e1 : m < 24 := lt8 (n := 24) (by omega) (by omega) c61
      rw [show 24 - m = (24 - (m + 1)) + 1 by omega, ldL_s, if_pos e2] at e
      refine g_aload_n (pc := 64) o dX10_load_64 rfl ?_
      refine g_getR (pc := 65) o 27 rfl rfl rfl inX10 (by decide) lf_X10_62 dX10_load_65 ?_
      refine g_bipush (pc := 68) o dX10_load_68 40 rfl ?_
      refine g_iload_n (pc := 70) o dX10_load_70 rfl ?_
      refine g_imul (pc := 71) o dX10_load_71 ?_
      refine g_iload (pc := 72) o dX10_load_72 rfl ?_
      refine g_iadd (pc := 74) o dX10_load_74 ?_
      refine n_ialdE (pc := 75) o (k * 40 + m) ((ix2 k 40 m).trans (by rw [Nat.mul_comm])) rfl ((by omega)) (by decide) (b7) dX10_load_75 ?_
      refine g_istore (pc := 76) o dX10_load_76 (by decide) ?_
      show ca_G Γ 9 _ _ [_, _, _, _, _, _, _, _, _] _
      refine g_iload (pc := 78) o dX10_load_78 rfl ?_
      refine g_i2l (pc := 80) o dX10_load_80 ?_
      refine g_ldc2 (pc := 81) o dX10_load_81 lc_X10_321 ?_
      refine g_ldc2 (pc := 84) o dX10_load_84 lc_X10_75 ?_
      refine g_callSi (pc := 87) o (m_in (h0.1 69 (k * 40 + m)).toInt64 (-1) 7 h) mt_X10_in ms_X10_in lk_X10_71 rfl (by decide) rfl (Nat.le_of_ble_eq_true rfl) dX10_load_87 ?_
      refine g_if_eq (pc := 90) o 110 dX10_load_90 (by decide) (fun c90 => ?_) (fun c90 => ?_)
      · skip
        rw [ni] at c90
        have c90 := bI_0.mp c90
        rw [if_neg (fun z => c90 (by rw [z]; decide)), if_neg (fun z => c90 ⟨Int.le_trans (by decide) z.1.1, z.1.2⟩)] at e
        refine g_iload (pc := 110) o dX10_load_110 rfl ?_
        exact g_iret o ρ dX10_load_112 (Pm.eq e.symm (Pm_s rfl hM))
      · skip
        rw [ni] at c90
        have c90 := bI_n0.mp c90
        have hm1 : (-1 : Int64).toInt = -1 := by decide
        have h7 : (7 : Int64).toInt = 7 := by decide
        rw [rng, hm1, h7] at c90
        have fin : (rng (h0.1 69 (k * 40 + m)) 0 7 → (h.1 52 8).toInt < 60) → ca_G Γ 9 h 113 [some (.ref 51), some (.int (nI k)), some (.int p), some (.int (nI d)), some (.int w4), some (.int (nI c)), some (.int (nI m)), some (.int (h0.1 69 (k * 40 + m))), j8] [] := by
          intro hr
          refine g_iload (pc := 113) o dX10_load_113 rfl ?_
          refine g_if_lt (pc := 115) o 137 dX10_load_115 (by decide) (fun c115 => ?_) (fun c115 => ?_)
          · skip
            have := (lt0 _).mp c115
            have e3 : h0.1 69 (k * 40 + m) = -1 := by
              apply Int32.toInt_inj.mp
              have : (-1 : Int32).toInt = -1 := by decide
              omega
            rw [if_pos e3] at e
            refine g_iinc (pc := 137) o dX10_load_137 rfl 1 rfl (by decide) ?_
            show ca_G Γ 9 _ _ [_, _, _, _, _, _, _, _, _] _
            refine g_goto (pc := 140) o 46 dX10_load_140 (by decide) ?_
            exact ih e1 _ _ _ _ _ _ (nI_1 m) rfl hM ⟨o1, o2, o3⟩ e
          · skip
            have k0 := mt (lt0 _).mpr c115
            have e3 : ¬ h0.1 69 (k * 40 + m) = -1 := fun z => by
              rw [z] at k0
              exact k0 (by decide)
            have r3 : rng (h0.1 69 (k * 40 + m)) 0 7 := ⟨by omega, by omega⟩
            have h60 := hr r3
            rw [if_neg e3, if_pos ⟨r3, h60⟩] at e
            have ew : nI 100 * nI d + nI m = nI (100 * d + m) := by rw [pk_mul, nI_add]
            refine g_aload_n (pc := 118) o dX10_load_118 rfl ?_
            refine g_iload_n (pc := 119) o dX10_load_119 rfl ?_
            refine g_iload (pc := 120) o dX10_load_120 rfl ?_
            refine g_bipush (pc := 122) o dX10_load_122 100 rfl ?_
            refine g_iload_n (pc := 124) o dX10_load_124 rfl ?_
            refine g_imul (pc := 125) o dX10_load_125 ?_
            refine g_iload (pc := 126) o dX10_load_126 rfl ?_
            refine g_iadd (pc := 128) o dX10_load_128 ?_
            rw [show (100 : Int32) = nI 100 from rfl, ew]
            refine g_callVi (pc := 129) o (m_sees (h := h) (n := nSeen (h.1 52)) (by omega) o2 p (h0.1 69 (k * 40 + m)) (nI (100 * d + m))) mt_X10_sees mv_X10_sees lk_X10_105 rfl rfl rfl (by decide) rfl (Nat.le_of_ble_eq_true rfl) dX10_load_129 ?_
            refine g_istore (pc := 132) o dX10_load_132 (by decide) ?_
            show ca_G Γ 9 _ _ [_, _, _, _, _, _, _, _, _] _
            refine g_iinc (pc := 134) o dX10_load_134 rfl 1 rfl (by decide) ?_
            show ca_G Γ 9 _ _ [_, _, _, _, _, _, _, _, _] _
            refine g_iinc (pc := 137) o dX10_load_137 rfl 1 rfl (by decide) ?_
            show ca_G Γ 9 _ _ [_, _, _, _, _, _, _, _, _] _
            refine g_goto (pc := 140) o 46 dX10_load_140 (by decide) ?_
            exact ih e1 _ _ _ _ _ _ (nI_1 m) (nI_1 c) (fun z hz => (seeM_off hz).trans (hM z hz)) (ok8_of (n := nSeen (h.1 52) + 1) (by omega) (nI_1 _)).1 e
        refine g_iload (pc := 93) o dX10_load_93 rfl ?_
        refine g_if_lt (pc := 95) o 113 dX10_load_95 (by decide) (fun c95 => ?_) (fun c95 => ?_)
        · skip
          have := (lt0 _).mp c95
          exact fin (fun z => by have := z.1; omega)
        · skip
          have k0 := mt (lt0 _).mpr c95
          refine g_aload_n (pc := 98) o dX10_load_98 rfl ?_
          refine g_getR (pc := 99) o 0 rfl rfl rfl inX10 (by decide) lf_X10_7 dX10_load_99 ?_
          refine g_bipush (pc := 102) o dX10_load_102 8 rfl ?_
          refine n_iald (pc := 104) o 8 (rfl) rfl ((by omega)) (by decide) dX10_load_104 ?_
          refine g_bipush (pc := 105) o dX10_load_105 60 rfl ?_
          refine g_ic_ne (pc := 107) o 113 dX10_load_107 (by decide) (fun c107 => ?_) (fun c107 => ?_)
          · skip
            refine fin (fun z => ?_)
            have := mt (eqN (h.1 52 8) 60 (by decide)).mpr c107
            omega
          · skip
            have h60 := (eqN (h.1 52 8) 60 (by decide)).mp c107
            rw [if_neg (fun z => by rw [z] at k0; exact k0 (by decide)), if_neg (fun z => by have := z.2; omega)] at e
            refine g_iload (pc := 110) o dX10_load_110 rfl ?_
            exact g_iret o ρ dX10_load_112 (Pm.eq e.symm (Pm_s rfl hM))
set_option maxRecDepth 100000 in
set_option maxHeartbeats 400000 in
theorem mo_load {h : Mem} (I : Iv (absM h)) (a p d : Int32) : Ct yX10_load cX10_load 9 (some .int) 3 66 [.ref 51, .int a, .int p, .int d] h (Pm h (op_load a p d (absM h))) := by
  refine Ct.of (by decide) (Nat.le_of_ble_eq_true rfl) (fun Γ o ρ => ?_)
  show ca_G Γ 9 _ _ [_, _, _, _, _, _, _, _, _] _
  by_cases ha : rng a 0 3
  · have eq : op_load a p d (absM h) = if ¬ h.1 67 (ca_n a) = 0 then (if rng p 0 5 ∧ rng d 0 29 then (nI (ldR (absM h) (ca_n a) p (ca_n d)).2, sf (absM h) 0 (ldR (absM h) (ca_n a) p (ca_n d)).1) else fnd (absM h) 0) else fnd (absM h) 5 := if_pos ha
    rw [eq] at ρ
    obtain ⟨k, hk, rfl, ek⟩ := n_of (x := a) (b := 3) ha (by decide)
    rw [ek] at ρ
    obtain ⟨m, hm, em, -⟩ := I.sz k (by omega)
    have em : h.1 68 k = nI m := em
    clear eq
    by_cases hb : h.1 67 k = 0
    · rw [if_neg (fun z => z hb)] at ρ
      refine g_aload_n (pc := 0) o dX10_load_0 rfl ?_
      refine g_iload_n (pc := 1) o dX10_load_1 rfl ?_
      refine g_callVi (pc := 2) o (m_wrong5 k (by omega) hb) mt_X10_wrong mv_X10_wrong lk_X10_315 rfl rfl rfl (by decide) rfl (Nat.le_of_ble_eq_true rfl) dX10_load_2 ?_
      refine g_istore (pc := 5) o dX10_load_5 (by decide) ?_
      show ca_G Γ 9 _ _ [_, _, _, _, _, _, _, _, _] _
      refine g_iload (pc := 7) o dX10_load_7 rfl ?_
      refine g_if_eq (pc := 9) o 19 dX10_load_9 (by decide) (fun c9 => ?_) (fun c9 => ?_)
      · skip
        exact absurd c9 (by decide)
      · skip
        refine g_aload_n (pc := 12) o dX10_load_12 rfl ?_
        refine g_iload (pc := 13) o dX10_load_13 rfl ?_
        refine g_callVi (pc := 15) o (m_finds 5 (by decide) h) mt_X10_finds mv_X10_finds lk_X10_86 rfl rfl rfl (by decide) rfl (Nat.le_of_ble_eq_true rfl) dX10_load_15 ?_
        exact g_iret o ρ dX10_load_18 (Pm_fnd rfl (kC.rf h) (by decide))
    · rw [if_pos hb] at ρ
      refine g_aload_n (pc := 0) o dX10_load_0 rfl ?_
      refine g_iload_n (pc := 1) o dX10_load_1 rfl ?_
      refine g_callVi (pc := 2) o (m_wrongN k (by omega) hb) mt_X10_wrong mv_X10_wrong lk_X10_315 rfl rfl rfl (by decide) rfl (Nat.le_of_ble_eq_true rfl) dX10_load_2 ?_
      refine g_istore (pc := 5) o dX10_load_5 (by decide) ?_
      show ca_G Γ 9 _ _ [_, _, _, _, _, _, _, _, _] _
      refine g_iload (pc := 7) o dX10_load_7 rfl ?_
      refine g_if_eq (pc := 9) o 19 dX10_load_9 (by decide) (fun c9 => ?_) (fun c9 => ?_)
      · skip
        refine g_iload_n (pc := 19) o dX10_load_19 rfl ?_
        refine g_callSi (pc := 20) o (m_isPerson p h) mt_X10_isPerson ms_X10_isPerson lk_X10_98 rfl (by decide) rfl (Nat.le_of_ble_eq_true rfl) dX10_load_20 ?_
        refine g_if_eq (pc := 23) o 33 dX10_load_23 (by decide) (fun c23 => ?_) (fun c23 => ?_)
        · skip
          refine g_aload_n (pc := 33) o dX10_load_33 rfl ?_
          refine g_ldc (pc := 34) o dX10_load_34 lc_X10_68 ?_
          refine g_callVi (pc := 36) o (m_finds 0 (by decide) h) mt_X10_finds mv_X10_finds lk_X10_86 rfl rfl rfl (by decide) rfl (Nat.le_of_ble_eq_true rfl) dX10_load_36 ?_
          exact g_iret o ρ dX10_load_39 (Pm.eq (if_neg (fun z => bI_0.mp c23 z.1)) (Pm_fnd rfl (kC.rf h) (by decide)))
        · skip
          refine g_iload_n (pc := 26) o dX10_load_26 rfl ?_
          refine g_callSi (pc := 27) o (m_isDay d h) mt_X10_isDay ms_X10_isDay lk_X10_122 rfl (by decide) rfl (Nat.le_of_ble_eq_true rfl) dX10_load_27 ?_
          refine g_if_ne (pc := 30) o 40 dX10_load_30 (by decide) (fun c30 => ?_) (fun c30 => ?_)
          · skip
            rw [if_pos ⟨bI_n0.mp c23, bI_n0.mp c30⟩] at ρ
            obtain ⟨dd, hd, rfl, ed⟩ := n_of (x := d) (b := 29) (bI_n0.mp c30) (by decide)
            rw [ed] at ρ
            have es : ca_n ((absM h) 6 k) = m := by show ca_n (h.1 68 k) = m; rw [em]; exact nI_clamp (by omega)
            refine g_iconst (pc := 40) o dX10_load_40 0 rfl ?_
            refine g_istore (pc := 41) o dX10_load_41 (by decide) ?_
            show ca_G Γ 9 _ _ [_, _, _, _, _, _, _, _, _] _
            refine g_iconst (pc := 43) o dX10_load_43 0 rfl ?_
            refine g_istore (pc := 44) o dX10_load_44 (by decide) ?_
            show ca_G Γ 9 _ _ [_, _, _, _, _, _, _, _, _] _
            exact lp_mload o ρ k m (by omega) hm em p dd (by omega) _ 0 (by omega) 0 0 h 0 _ _ rfl rfl (offM.rf h) I.1.seen (by unfold ldR; rw [es]; rfl)
          · skip
            refine g_aload_n (pc := 33) o dX10_load_33 rfl ?_
            refine g_ldc (pc := 34) o dX10_load_34 lc_X10_68 ?_
            refine g_callVi (pc := 36) o (m_finds 0 (by decide) h) mt_X10_finds mv_X10_finds lk_X10_86 rfl rfl rfl (by decide) rfl (Nat.le_of_ble_eq_true rfl) dX10_load_36 ?_
            exact g_iret o ρ dX10_load_39 (Pm.eq (if_neg (fun z => bI_0.mp c30 z.2)) (Pm_fnd rfl (kC.rf h) (by decide)))
      · skip
        exact absurd rfl c9
  · skip
    refine g_aload_n (pc := 0) o dX10_load_0 rfl ?_
    refine g_iload_n (pc := 1) o dX10_load_1 rfl ?_
    refine g_callVi (pc := 2) o (m_wrong0 a ha) mt_X10_wrong mv_X10_wrong lk_X10_315 rfl rfl rfl (by decide) rfl (Nat.le_of_ble_eq_true rfl) dX10_load_2 ?_
    refine g_istore (pc := 5) o dX10_load_5 (by decide) ?_
    show ca_G Γ 9 _ _ [_, _, _, _, _, _, _, _, _] _
    refine g_iload (pc := 7) o dX10_load_7 rfl ?_
    refine g_if_eq (pc := 9) o 19 dX10_load_9 (by decide) (fun c9 => ?_) (fun c9 => ?_)
    · skip
      exact absurd c9 (by decide)
    · skip
      refine g_aload_n (pc := 12) o dX10_load_12 rfl ?_
      refine g_iload (pc := 13) o dX10_load_13 rfl ?_
      refine g_callVi (pc := 15) o (m_finds 0 (by decide) h) mt_X10_finds mv_X10_finds lk_X10_86 rfl rfl rfl (by decide) rfl (Nat.le_of_ble_eq_true rfl) dX10_load_15 ?_
      exact g_iret o ρ dX10_load_18 (Pm.eq (if_neg ha) (Pm_fnd rfl (kC.rf h) (by decide)))

