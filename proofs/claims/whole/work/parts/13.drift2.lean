/-! ===== drift ===== -/
theorem CR_s2 {h h2 : Mem} {σ : Sg} {s s2 : Nat → Int32} (C : CR h (sf σ 0 s)) (B : BR h2 1 s2) (e : ∀ k, inC k = true → inB 1 k = false → h2.1 k = h.1 k) : CR h2 (sf σ 0 s2) := by
  have := CR_s C B e
  rwa [sf_sf] at this
theorem ush8 (x : Int32) : ∃ a, a < 2 ^ 24 ∧ jushr x 8 = nI a := by
  have h := pk_ushr x 8 8 (by decide)
  have hl : x.toBitVec.toNat < 2 ^ 32 := x.toBitVec.isLt
  refine ⟨x.toBitVec.toNat / 2 ^ 8, by omega, ?_⟩
  apply Int32.toBitVec_inj.mp
  apply BitVec.eq_of_toNat_eq
  rw [pk_tn (by omega)]
  exact h
theorem ush8r (x : Int32) (d : Nat) (h0 : 0 < d) (hd : d < 2 ^ 31) : ∃ a, a < d ∧ jrem (jushr x 8) (nI d) = nI a := by
  obtain ⟨a, ha, e⟩ := ush8 x
  rw [e, rm_nI (by omega) h0 hd]
  exact ⟨a % d, Nat.mod_lt _ h0, rfl⟩
def zV (s : Nat → Int32) : Int32 := s 284 * 1103515245 + 12345
def zS (s : Nat → Int32) : Nat → Int32 := upd s 284 (zV s)
def drP (s : Nat → Int32) : Int32 := jrem (jushr (zV s) 8) 8
def drW (s : Nat → Int32) (d : Int32) : Int32 := nI 100 * d + jrem (jushr (zV (zS s)) 8) 24
def drS (p d : Int32) : Nat → (Nat → Int32) → (Nat → Int32)
  | 0, s => s
  | n + 1, s => if (s 8).toInt < 60 then drS p d n (sawS (zS (zS s)) (nSeen s) p (drP s) (drW s d)) else s
theorem drS_s (p d : Int32) (n : Nat) (s : Nat → Int32) : drS p d (n + 1) s = if (s 8).toInt < 60 then drS p d n (sawS (zS (zS s)) (nSeen s) p (drP s) (drW s d)) else s := rfl
theorem drS_x (p d : Int32) (s : Nat → Int32) (h : ¬ (s 8).toInt < 60) : ∀ n, drS p d n s = s
  | 0 => rfl
  | n + 1 => by rw [drS_s, if_neg h]
def op_drift (a b c : Int32) (σ : Sg) : Int32 × Sg := if rng a 0 5 ∧ rng b 0 29 ∧ rng c 1 20 then (drS a b (ca_n c) (σ 0) 8, sf σ 0 (drS a b (ca_n c) (σ 0))) else fnd σ 0
def ok8 (s : Nat → Int32) : Prop := nSeen s ≤ 60 ∧ s 8 = nI (nSeen s) ∧ (s 8).toInt = nSeen s
theorem ok8_of {s : Nat → Int32} {n : Nat} (hn : n ≤ 60) (e : s 8 = nI n) : ok8 s ∧ nSeen s = n := by
  have e2 : nSeen s = n := by unfold nSeen ca_n; rw [e, nI_clamp (by omega)]
  refine ⟨?_, e2⟩
  unfold ok8
  rw [e2, e, nI_toInt (by omega)]
  exact ⟨hn, rfl, rfl⟩
theorem drW_q (s : Nat → Int32) (dd : Nat) (hd : dd < 30) : drW s (nI dd) / 100 = nI dd ∧ jrem (drW s (nI dd)) 100 = jrem (jushr (zV (zS s)) 8) 24 := by
  unfold drW
  obtain ⟨a, ha, e⟩ := ush8r (zV (zS s)) 24 (by decide) (by decide)
  rw [show (24 : Int32) = nI 24 from rfl, e, pk_mul, nI_add]
  exact wq dd a (by omega) (by omega)
set_option maxRecDepth 100000 in
set_option maxHeartbeats 400000 in
theorem c_draw {h : Mem} {s : Nat → Int32} (B : BR h 1 s) : Ct yX0_draw cX0_draw 1 (some .int) 0 0 [.ref 1] h (Ei (jushr (zV s) 8) (mw h 1 6 (zV s))) := by
  refine Ct.of (by decide) (Nat.le_of_ble_eq_true rfl) (fun Γ o ρ => ?_)
  refine g_aload_n (pc := 0) o dX0_draw_0 rfl ?_
  refine g_aload_n (pc := 1) o dX0_draw_1 rfl ?_
  refine g_getIE (pc := 2) o 6 rfl rfl rfl inX0 (by decide) lf_X0_46 (B.2.2.2.2.2.2.1) dX0_draw_2 ?_
  refine g_ldc (pc := 5) o dX0_draw_5 lc_X0_50 ?_
  refine g_imul (pc := 7) o dX0_draw_7 ?_
  refine g_sipush (pc := 8) o dX0_draw_8 12345 rfl ?_
  refine g_iadd (pc := 11) o dX0_draw_11 ?_
  refine g_put (pc := 12) o 6 rfl rfl rfl inX0 tyX0_ok nmX0 (by decide) lf_X0_46 rfl rfl rfl dX0_draw_12 ?_
  refine g_aload_n (pc := 15) o dX0_draw_15 rfl ?_
  refine g_getIE (pc := 16) o 6 rfl rfl rfl inX0 (by decide) lf_X0_46 (rfl) dX0_draw_16 ?_
  refine g_bipush (pc := 19) o dX0_draw_19 8 rfl ?_
  refine g_iushr (pc := 21) o dX0_draw_21 ?_
  exact g_iret o ρ dX0_draw_22 (Ei.mk rfl rfl)
theorem BR_z {h : Mem} {s : Nat → Int32} (B : BR h 1 s) : BR (mw h 1 6 (zV s)) 1 (zS s) := BR_bo B
theorem CR_z {h : Mem} {σ : Sg} {s : Nat → Int32} (C : CR h (sf σ 0 s)) : CR (mw h 1 6 (zV s)) (sf σ 0 (zS s)) := CR_s2 C (BR_z C.1) (fun k _ hk2 => mw_ne _ _ _ (fun z => by subst z; revert hk2; decide))
theorem CR_saw2 {h : Mem} {σ : Sg} {s : Nat → Int32} (C : CR h (sf σ 0 s)) {n : Nat} (hn : n < 60) (p q w d m : Int32) (hd : d = w / 100) (hm : m = jrem w 100) : CR (addM h n p q d m) (sf σ 0 (sawS s n p q w)) := by
  subst hd hm
  exact CR_s2 C (BR_saw C.1 hn p q w) (fun k _ hk2 => addM_off ⟨fun z => by subst z; revert hk2; decide, fun z => by subst z; revert hk2; decide⟩)
set_option maxRecDepth 100000 in
set_option maxHeartbeats 400000 in
theorem lp_drift {Γ : Fr} (o : ca_O Γ cX9_drift 7 RX9 1 25) {h0 : Mem} {q : Int32 × Sg} (ρ : ca_R Γ (some .int) (Po h0 q)) {σ : Sg} (p : Int32) (dd : Nat) (hd : dd < 30) (N : Nat) (hN : N ≤ 20) : ∀ k, k ≤ N → ∀ (xk : Int32) (h : Mem) (s : Nat → Int32) (j5 j6 : Option Value), xk = nI k → CR h (sf σ 0 s) → kM h0 h → ok8 s → (drS p (nI dd) (N - k) s 8, sf σ 0 (drS p (nI dd) (N - k) s)) = q → ca_G Γ 7 h 34 [some (.ref 0), some (.int p), some (.int (nI dd)), some (.int (nI N)), some (.int xk), j5, j6] [] := by
  refine downI N (fun k hk ih => ?_)
  rintro xk h s j5 j6 rfl C hm ⟨o1, o2, o3⟩ e
  refine g_iload (pc := 34) o dX9_drift_34 rfl ?_
  refine g_iload_n (pc := 36) o dX9_drift_36 rfl ?_
  refine g_ic_ge (pc := 37) o 100 dX9_drift_37 (by decide) (fun c37 => ?_) (fun c37 => ?_)
  · skip
    have ek : k = N := ge8 (n := N) (by omega) (by omega) c37
    subst ek
    rw [Nat.sub_self] at e
    refine g_aload_n (pc := 100) o dX9_drift_100 rfl ?_
    refine g_getR (pc := 101) o 0 rfl rfl rfl inX9 (by decide) lf_X9_10 dX9_drift_101 ?_
    refine g_getR (pc := 104) o 1 rfl rfl rfl inX0 (by decide) lf_X9_89 dX9_drift_104 ?_
    refine g_callVi (pc := 107) o (c_ssize C.1) mt_X5_size mv_X5_size lk_X9_109 rfl rfl rfl (by decide) rfl (Nat.le_of_ble_eq_true rfl) dX9_drift_107 ?_
    exact g_iret o ρ dX9_drift_110 (Po.eq e.symm (Po.mk rfl C hm))
  · skip
    have ek : k < N := lt8 (n := N) (by omega) (by omega) c37
    rw [show N - k = (N - (k + 1)) + 1 by omega] at e
    refine g_aload_n (pc := 40) o dX9_drift_40 rfl ?_
    refine g_getR (pc := 41) o 0 rfl rfl rfl inX9 (by decide) lf_X9_10 dX9_drift_41 ?_
    refine g_getR (pc := 44) o 1 rfl rfl rfl inX0 (by decide) lf_X9_89 dX9_drift_44 ?_
    refine g_callVi (pc := 47) o (c_hasRoom C.1) mt_X5_hasRoom mv_X5_hasRoom lk_X9_93 rfl rfl rfl (by decide) rfl (Nat.le_of_ble_eq_true rfl) dX9_drift_47 ?_
    refine g_if_eq (pc := 50) o 100 dX9_drift_50 (by decide) (fun c50 => ?_) (fun c50 => ?_)
    · skip
      have c50 : ¬ (s 8).toInt < 60 := bI_0.mp c50
      rw [drS_x _ _ _ c50] at e
      refine g_aload_n (pc := 100) o dX9_drift_100 rfl ?_
      refine g_getR (pc := 101) o 0 rfl rfl rfl inX9 (by decide) lf_X9_10 dX9_drift_101 ?_
      refine g_getR (pc := 104) o 1 rfl rfl rfl inX0 (by decide) lf_X9_89 dX9_drift_104 ?_
      refine g_callVi (pc := 107) o (c_ssize C.1) mt_X5_size mv_X5_size lk_X9_109 rfl rfl rfl (by decide) rfl (Nat.le_of_ble_eq_true rfl) dX9_drift_107 ?_
      exact g_iret o ρ dX9_drift_110 (Po.eq e.symm (Po.mk rfl C hm))
    · skip
      have c50 : (s 8).toInt < 60 := bI_n0.mp c50
      rw [drS_s, if_pos c50] at e
      have C1 := CR_z C
      have C2 := CR_z C1
      have w := drW_q s dd hd
      refine g_aload_n (pc := 53) o dX9_drift_53 rfl ?_
      refine g_getR (pc := 54) o 0 rfl rfl rfl inX9 (by decide) lf_X9_10 dX9_drift_54 ?_
      refine g_callVi (pc := 57) o (c_draw C.1) mt_X0_draw mv_X0_draw lk_X9_129 rfl rfl rfl (by decide) rfl (Nat.le_of_ble_eq_true rfl) dX9_drift_57 ?_
      refine g_bipush (pc := 60) o dX9_drift_60 8 rfl ?_
      refine g_irem (pc := 62) o dX9_drift_62 (by decide) ?_
      refine g_istore (pc := 63) o dX9_drift_63 (by decide) ?_
      refine g_aload_n (pc := 65) o dX9_drift_65 rfl ?_
      refine g_getR (pc := 66) o 0 rfl rfl rfl inX9 (by decide) lf_X9_10 dX9_drift_66 ?_
      refine g_callVi (pc := 69) o (c_draw C1.1) mt_X0_draw mv_X0_draw lk_X9_129 rfl rfl rfl (by decide) rfl (Nat.le_of_ble_eq_true rfl) dX9_drift_69 ?_
      refine g_bipush (pc := 72) o dX9_drift_72 24 rfl ?_
      refine g_irem (pc := 74) o dX9_drift_74 (by decide) ?_
      refine g_istore (pc := 75) o dX9_drift_75 (by decide) ?_
      refine g_aload_n (pc := 77) o dX9_drift_77 rfl ?_
      refine g_getR (pc := 78) o 0 rfl rfl rfl inX9 (by decide) lf_X9_10 dX9_drift_78 ?_
      refine g_getR (pc := 81) o 1 rfl rfl rfl inX0 (by decide) lf_X9_89 dX9_drift_81 ?_
      refine g_iload_n (pc := 84) o dX9_drift_84 rfl ?_
      refine g_iload (pc := 85) o dX9_drift_85 rfl ?_
      refine g_iload_n (pc := 87) o dX9_drift_87 rfl ?_
      refine g_iload (pc := 88) o dX9_drift_88 rfl ?_
      refine g_callVi (pc := 90) o (c_sadd C2.1 (n := nSeen s) (by omega) o2 p (drP s) (nI dd) (jrem (jushr (zV (zS s)) 8) 24)) mt_X5_add mv_X5_add lk_X9_105 rfl rfl rfl (by decide) rfl (Nat.le_of_ble_eq_true rfl) dX9_drift_90 ?_
      refine g_pop (pc := 93) o dX9_drift_93 rfl ?_
      refine g_iinc (pc := 94) o dX9_drift_94 rfl 1 rfl (by decide) ?_
      refine g_goto (pc := 97) o 34 dX9_drift_97 (by decide) ?_
      exact ih ek _ _ _ _ _ (nI_1 k) (CR_saw2 C2 (by omega) p (drP s) (drW s (nI dd)) _ _ w.1.symm w.2.symm) (kM_saw ((hm.mw (by decide)).mw (by decide))) (ok8_of (n := nSeen s + 1) (by omega) (nI_1 _)).1 e
set_option maxRecDepth 100000 in
set_option maxHeartbeats 400000 in
theorem co_drift {h : Mem} {σ : Sg} (C : CR h σ) (I : Iv σ) (a b c : Int32) : Ct yX9_drift cX9_drift 7 (some .int) 1 25 [.ref 0, .int a, .int b, .int c] h (Po h (op_drift a b c σ)) := by
  refine Ct.of (by decide) (Nat.le_of_ble_eq_true rfl) (fun Γ o ρ => ?_)
  refine g_iload_n (pc := 0) o dX9_drift_0 rfl ?_
  refine g_callSi (pc := 1) o (c_isPerson a h) mt_X9_isPerson ms_X9_isPerson lk_X9_83 rfl (by decide) rfl (Nat.le_of_ble_eq_true rfl) dX9_drift_1 ?_
  refine g_if_eq (pc := 4) o 25 dX9_drift_4 (by decide) (fun c4 => ?_) (fun c4 => ?_)
  · skip
    refine g_aload_n (pc := 25) o dX9_drift_25 rfl ?_
    refine g_iconst (pc := 26) o dX9_drift_26 0 rfl ?_
    refine g_callVi (pc := 27) o (c_finding 0 (by decide) h) mt_X9_finding mv_X9_finding lk_X9_58 rfl rfl rfl (by decide) rfl (Nat.le_of_ble_eq_true rfl) dX9_drift_27 ?_
    exact g_iret o ρ dX9_drift_30 (Po.eq (if_neg (fun z => bI_0.mp c4 z.1)) (Po_fnd C (by decide)))
  · skip
    refine g_iload_n (pc := 7) o dX9_drift_7 rfl ?_
    refine g_callSi (pc := 8) o (c_isDay b h) mt_X9_isDay ms_X9_isDay lk_X9_126 rfl (by decide) rfl (Nat.le_of_ble_eq_true rfl) dX9_drift_8 ?_
    refine g_if_eq (pc := 11) o 25 dX9_drift_11 (by decide) (fun c11 => ?_) (fun c11 => ?_)
    · skip
      refine g_aload_n (pc := 25) o dX9_drift_25 rfl ?_
      refine g_iconst (pc := 26) o dX9_drift_26 0 rfl ?_
      refine g_callVi (pc := 27) o (c_finding 0 (by decide) h) mt_X9_finding mv_X9_finding lk_X9_58 rfl rfl rfl (by decide) rfl (Nat.le_of_ble_eq_true rfl) dX9_drift_27 ?_
      exact g_iret o ρ dX9_drift_30 (Po.eq (if_neg (fun z => bI_0.mp c11 z.2.1)) (Po_fnd C (by decide)))
    · skip
      refine g_iload_n (pc := 14) o dX9_drift_14 rfl ?_
      refine g_iconst (pc := 15) o dX9_drift_15 1 rfl ?_
      refine g_ic_lt (pc := 16) o 25 dX9_drift_16 (by decide) (fun c16 => ?_) (fun c16 => ?_)
      · skip
        refine g_aload_n (pc := 25) o dX9_drift_25 rfl ?_
        refine g_iconst (pc := 26) o dX9_drift_26 0 rfl ?_
        refine g_callVi (pc := 27) o (c_finding 0 (by decide) h) mt_X9_finding mv_X9_finding lk_X9_58 rfl rfl rfl (by decide) rfl (Nat.le_of_ble_eq_true rfl) dX9_drift_27 ?_
        exact g_iret o ρ dX9_drift_30 (Po.eq (if_neg (fun z => (by have := (ltN c 1 (by decide)).mp c16; have := z.2.2.1; omega))) (Po_fnd C (by decide)))
      · skip
        refine g_iload_n (pc := 19) o dX9_drift_19 rfl ?_
        refine g_bipush (pc := 20) o dX9_drift_20 20 rfl ?_
        refine g_ic_le (pc := 22) o 31 dX9_drift_22 (by decide) (fun c22 => ?_) (fun c22 => ?_)
        · skip
          have k3 := mt (ltN c 1 (by decide)).mpr c16
          have k4 := (leN c 20 (by decide)).mp c22
          have eq : op_drift a b c σ = (drS a b (ca_n c) (σ 0) 8, sf σ 0 (drS a b (ca_n c) (σ 0))) := if_pos ⟨bI_n0.mp c4, bI_n0.mp c11, by omega, by omega⟩
          obtain ⟨dd, hd, rfl, -⟩ := n_of (x := b) (b := 29) (bI_n0.mp c11) (by decide)
          obtain ⟨N, hN, rfl, eN⟩ := n_of (x := c) (b := 20) ⟨by omega, by omega⟩ (by decide)
          rw [eN] at eq
          refine g_iconst (pc := 31) o dX9_drift_31 0 rfl ?_
          refine g_istore (pc := 32) o dX9_drift_32 (by decide) ?_
          exact lp_drift o ρ (σ := σ) a dd (by omega) N hN 0 (by omega) 0 h (σ 0) _ _ rfl (by rw [sf_id]; exact C) (kM.rf h) I.1.seen eq.symm
        · skip
          refine g_aload_n (pc := 25) o dX9_drift_25 rfl ?_
          refine g_iconst (pc := 26) o dX9_drift_26 0 rfl ?_
          refine g_callVi (pc := 27) o (c_finding 0 (by decide) h) mt_X9_finding mv_X9_finding lk_X9_58 rfl rfl rfl (by decide) rfl (Nat.le_of_ble_eq_true rfl) dX9_drift_27 ?_
          exact g_iret o ρ dX9_drift_30 (Po.eq (if_neg (fun z => (by have := mt (leN c 20 (by decide)).mpr c22; have := z.2.2.2; omega))) (Po_fnd C (by decide)))
/-! the model's -/
set_option maxRecDepth 100000 in
set_option maxHeartbeats 400000 in
theorem m_next {h : Mem} : Ct yX10_next cX10_next 1 (some .int) 0 0 [.ref 51] h (Ei (jushr (zV (h.1 52)) 8) (mw h 52 284 (zV (h.1 52)))) := by
  refine Ct.of (by decide) (Nat.le_of_ble_eq_true rfl) (fun Γ o ρ => ?_)
  refine g_aload_n (pc := 0) o dX10_next_0 rfl ?_
  refine g_getR (pc := 1) o 0 rfl rfl rfl inX10 (by decide) lf_X10_7 dX10_next_1 ?_
  refine g_sipush (pc := 4) o dX10_next_4 284 rfl ?_
  refine g_aload_n (pc := 7) o dX10_next_7 rfl ?_
  refine g_getR (pc := 8) o 0 rfl rfl rfl inX10 (by decide) lf_X10_7 dX10_next_8 ?_
  refine g_sipush (pc := 11) o dX10_next_11 284 rfl ?_
  refine n_iald (pc := 14) o 284 (rfl) rfl ((by omega)) (by decide) dX10_next_14 ?_
  refine g_ldc (pc := 15) o dX10_next_15 lc_X10_81 ?_
  refine g_imul (pc := 17) o dX10_next_17 ?_
  refine g_sipush (pc := 18) o dX10_next_18 12345 rfl ?_
  refine g_iadd (pc := 21) o dX10_next_21 ?_
  refine n_iast (pc := 22) o 284 (rfl) rfl ((by omega)) (by decide) dX10_next_22 ?_
  refine g_aload_n (pc := 23) o dX10_next_23 rfl ?_
  refine g_getR (pc := 24) o 0 rfl rfl rfl inX10 (by decide) lf_X10_7 dX10_next_24 ?_
  refine g_sipush (pc := 27) o dX10_next_27 284 rfl ?_
  refine n_ialdE (pc := 30) o 284 (rfl) rfl ((by omega)) (by decide) (rfl) dX10_next_30 ?_
  refine g_bipush (pc := 31) o dX10_next_31 8 rfl ?_
  refine g_iushr (pc := 33) o dX10_next_33 ?_
  exact g_iret o ρ dX10_next_34 (Ei.mk rfl rfl)
set_option maxRecDepth 100000 in
set_option maxHeartbeats 400000 in
theorem lp_mdrift {Γ : Fr} (o : ca_O Γ cX10_drift 8 RX10 2 45) {h0 : Mem} {q : Int32 × Sg} (ρ : ca_R Γ (some .int) (Pm h0 q)) {σ : Sg} (p d : Int32) (N : Nat) (hN : N ≤ 20) : ∀ k, k ≤ N → ∀ (xk : Int32) (h : Mem) (j5 j6 j7 : Option Value), xk = nI k → absM h = sf σ 0 (h.1 52) → kC h0 h → ok8 (h.1 52) → (drS p d (N - k) (h.1 52) 8, sf σ 0 (drS p d (N - k) (h.1 52))) = q → ca_G Γ 8 h 36 [some (.ref 51), some (.int p), some (.int d), some (.int (nI N)), some (.int xk), j5, j6, j7] [] := by
  refine downI N (fun k hk ih => ?_)
  rintro xk h j5 j6 j7 rfl C hm ⟨o1, o2, o3⟩ e
  refine g_iload (pc := 36) o dX10_drift_36 rfl ?_
  refine g_iload_n (pc := 38) o dX10_drift_38 rfl ?_
  refine g_ic_ge (pc := 39) o 94 dX10_drift_39 (by decide) (fun c39 => ?_) (fun c39 => ?_)
  · skip
    have ek : k = N := ge8 (n := N) (by omega) (by omega) c39
    subst ek
    rw [Nat.sub_self] at e
    refine g_aload_n (pc := 94) o dX10_drift_94 rfl ?_
    refine g_getR (pc := 95) o 0 rfl rfl rfl inX10 (by decide) lf_X10_7 dX10_drift_95 ?_
    refine g_bipush (pc := 98) o dX10_drift_98 8 rfl ?_
    refine n_iald (pc := 100) o 8 (rfl) rfl ((by omega)) (by decide) dX10_drift_100 ?_
    exact g_iret o ρ dX10_drift_101 (Pm.eq e.symm (Pm.mk rfl C hm))
  · skip
    have ek : k < N := lt8 (n := N) (by omega) (by omega) c39
    rw [show N - k = (N - (k + 1)) + 1 by omega] at e
    refine g_aload_n (pc := 42) o dX10_drift_42 rfl ?_
    refine g_getR (pc := 43) o 0 rfl rfl rfl inX10 (by decide) lf_X10_7 dX10_drift_43 ?_
    refine g_bipush (pc := 46) o dX10_drift_46 8 rfl ?_
    refine n_iald (pc := 48) o 8 (rfl) rfl ((by omega)) (by decide) dX10_drift_48 ?_
    refine g_bipush (pc := 49) o dX10_drift_49 60 rfl ?_
    refine g_ic_ge (pc := 51) o 94 dX10_drift_51 (by decide) (fun c51 => ?_) (fun c51 => ?_)
    · skip
      have c50 : ¬ (h.1 52 8).toInt < 60 := by have := (geN (h.1 52 8) 60 (by decide)).mp c51; omega
      rw [drS_x _ _ _ c50] at e
      refine g_aload_n (pc := 94) o dX10_drift_94 rfl ?_
      refine g_getR (pc := 95) o 0 rfl rfl rfl inX10 (by decide) lf_X10_7 dX10_drift_95 ?_
      refine g_bipush (pc := 98) o dX10_drift_98 8 rfl ?_
      refine n_iald (pc := 100) o 8 (rfl) rfl ((by omega)) (by decide) dX10_drift_100 ?_
      exact g_iret o ρ dX10_drift_101 (Pm.eq e.symm (Pm.mk rfl C hm))
    · skip
      have c50 : (h.1 52 8).toInt < 60 := by have := mt (geN (h.1 52 8) 60 (by decide)).mpr c51; omega
      rw [drS_s, if_pos c50] at e
      have e8 : (mw (mw h 52 284 (zV (h.1 52))) 52 284 (zV (zS (h.1 52)))).1 52 8 = nI (nSeen (h.1 52)) := by rw [mw_same, pk_un (by decide), mw_same, pk_un (by decide)]; exact o2
      refine g_aload_n (pc := 54) o dX10_drift_54 rfl ?_
      refine g_callVi (pc := 55) o (m_next) mt_X10_next mv_X10_next lk_X10_127 rfl rfl rfl (by decide) rfl (Nat.le_of_ble_eq_true rfl) dX10_drift_55 ?_
      refine g_bipush (pc := 58) o dX10_drift_58 8 rfl ?_
      refine g_irem (pc := 60) o dX10_drift_60 (by decide) ?_
      refine g_istore (pc := 61) o dX10_drift_61 (by decide) ?_
      have m2 : Ct yX10_next cX10_next 1 (some .int) 0 0 [.ref 51] (mw h 52 284 (zV (h.1 52))) (Ei (jushr (zV (zS (h.1 52))) 8) (mw (mw h 52 284 (zV (h.1 52))) 52 284 (zV (zS (h.1 52))))) := m_next
      refine g_aload_n (pc := 63) o dX10_drift_63 rfl ?_
      refine g_callVi (pc := 64) o (m2) mt_X10_next mv_X10_next lk_X10_127 rfl rfl rfl (by decide) rfl (Nat.le_of_ble_eq_true rfl) dX10_drift_64 ?_
      refine g_bipush (pc := 67) o dX10_drift_67 24 rfl ?_
      refine g_irem (pc := 69) o dX10_drift_69 (by decide) ?_
      refine g_istore (pc := 70) o dX10_drift_70 (by decide) ?_
      refine g_aload_n (pc := 72) o dX10_drift_72 rfl ?_
      refine g_iload_n (pc := 73) o dX10_drift_73 rfl ?_
      refine g_iload (pc := 74) o dX10_drift_74 rfl ?_
      refine g_bipush (pc := 76) o dX10_drift_76 100 rfl ?_
      refine g_iload_n (pc := 78) o dX10_drift_78 rfl ?_
      refine g_imul (pc := 79) o dX10_drift_79 ?_
      refine g_iload (pc := 80) o dX10_drift_80 rfl ?_
      refine g_iadd (pc := 82) o dX10_drift_82 ?_
      refine g_callVi (pc := 83) o (m_sees (h := mw (mw h 52 284 (zV (h.1 52))) 52 284 (zV (zS (h.1 52)))) (n := nSeen (h.1 52)) (by omega) e8 p (drP (h.1 52)) (drW (h.1 52) d)) mt_X10_sees mv_X10_sees lk_X10_105 rfl rfl rfl (by decide) rfl (Nat.le_of_ble_eq_true rfl) dX10_drift_83 ?_
      refine g_istore (pc := 86) o dX10_drift_86 (by decide) ?_
      refine g_iinc (pc := 88) o dX10_drift_88 rfl 1 rfl (by decide) ?_
      refine g_goto (pc := 91) o 36 dX10_drift_91 (by decide) ?_
      refine ih ek _ _ _ _ _ (nI_1 k) ?_ (kC_see ((hm.mw (by decide)).mw (by decide))) (ok8_of (n := nSeen (h.1 52) + 1) (by omega) (nI_1 _)).1 e
      rw [abs_saw, abs_s (h := h) (h2 := mw (mw h 52 284 (zV (h.1 52))) 52 284 (zV (zS (h.1 52)))) (fun k hk => by
        have : k ≠ 52 := fun z => by subst z; revert hk; decide
        rw [mw_ne _ _ _ this, mw_ne _ _ _ this]), C, sf_sf, sf_sf]
      rfl
set_option maxRecDepth 100000 in
set_option maxHeartbeats 400000 in
theorem mo_drift {h : Mem} (I : Iv (absM h)) (a b c : Int32) : Ct yX10_drift cX10_drift 8 (some .int) 2 45 [.ref 51, .int a, .int b, .int c] h (Pm h (op_drift a b c (absM h))) := by
  refine Ct.of (by decide) (Nat.le_of_ble_eq_true rfl) (fun Γ o ρ => ?_)
  have d3 := in_rng c 1 20 (by decide)
  refine g_iload_n (pc := 0) o dX10_drift_0 rfl ?_
  refine g_callSi (pc := 1) o (m_isPerson a h) mt_X10_isPerson ms_X10_isPerson lk_X10_98 rfl (by decide) rfl (Nat.le_of_ble_eq_true rfl) dX10_drift_1 ?_
  refine g_if_eq (pc := 4) o 26 dX10_drift_4 (by decide) (fun c4 => ?_) (fun c4 => ?_)
  · skip
    refine g_aload_n (pc := 26) o dX10_drift_26 rfl ?_
    refine g_ldc (pc := 27) o dX10_drift_27 lc_X10_68 ?_
    refine g_callVi (pc := 29) o (m_finds 0 (by decide) h) mt_X10_finds mv_X10_finds lk_X10_86 rfl rfl rfl (by decide) rfl (Nat.le_of_ble_eq_true rfl) dX10_drift_29 ?_
    exact g_iret o ρ dX10_drift_32 (Pm.eq (if_neg (fun z => bI_0.mp c4 z.1)) (Pm_fnd rfl (kC.rf h) (by decide)))
  · skip
    refine g_iload_n (pc := 7) o dX10_drift_7 rfl ?_
    refine g_callSi (pc := 8) o (m_isDay b h) mt_X10_isDay ms_X10_isDay lk_X10_122 rfl (by decide) rfl (Nat.le_of_ble_eq_true rfl) dX10_drift_8 ?_
    refine g_if_eq (pc := 11) o 26 dX10_drift_11 (by decide) (fun c11 => ?_) (fun c11 => ?_)
    · skip
      refine g_aload_n (pc := 26) o dX10_drift_26 rfl ?_
      refine g_ldc (pc := 27) o dX10_drift_27 lc_X10_68 ?_
      refine g_callVi (pc := 29) o (m_finds 0 (by decide) h) mt_X10_finds mv_X10_finds lk_X10_86 rfl rfl rfl (by decide) rfl (Nat.le_of_ble_eq_true rfl) dX10_drift_29 ?_
      exact g_iret o ρ dX10_drift_32 (Pm.eq (if_neg (fun z => bI_0.mp c11 z.2.1)) (Pm_fnd rfl (kC.rf h) (by decide)))
    · skip
      refine g_iload_n (pc := 14) o dX10_drift_14 rfl ?_
      refine g_i2l (pc := 15) o dX10_drift_15 ?_
      refine g_lconst (pc := 16) o dX10_drift_16 1 rfl ?_
      refine g_ldc2 (pc := 17) o dX10_drift_17 lc_X10_125 ?_
      refine g_callSi (pc := 20) o (m_in c.toInt64 1 20 h) mt_X10_in ms_X10_in lk_X10_71 rfl (by decide) rfl (Nat.le_of_ble_eq_true rfl) dX10_drift_20 ?_
      refine g_if_ne (pc := 23) o 33 dX10_drift_23 (by decide) (fun c23 => ?_) (fun c23 => ?_)
      · skip
        rw [d3] at c23
        have k3 := bI_n0.mp c23
        have eq : op_drift a b c (absM h) = (drS a b (ca_n c) (h.1 52) 8, sf (absM h) 0 (drS a b (ca_n c) (h.1 52))) := if_pos ⟨bI_n0.mp c4, bI_n0.mp c11, k3⟩
        obtain ⟨N, hN, rfl, eN⟩ := n_of (x := c) (b := 20) ⟨Int.le_trans (by decide) k3.1, k3.2⟩ (by decide)
        rw [eN] at eq
        refine g_iconst (pc := 33) o dX10_drift_33 0 rfl ?_
        refine g_istore (pc := 34) o dX10_drift_34 (by decide) ?_
        exact lp_mdrift o ρ (σ := absM h) a b N hN 0 (by omega) 0 h _ _ _ rfl (sf_id (absM h) 0).symm (kC.rf h) I.1.seen eq.symm

      · skip
        refine g_aload_n (pc := 26) o dX10_drift_26 rfl ?_
        refine g_ldc (pc := 27) o dX10_drift_27 lc_X10_68 ?_
        refine g_callVi (pc := 29) o (m_finds 0 (by decide) h) mt_X10_finds mv_X10_finds lk_X10_86 rfl rfl rfl (by decide) rfl (Nat.le_of_ble_eq_true rfl) dX10_drift_29 ?_
        exact g_iret o ρ dX10_drift_32 (Pm.eq (if_neg (fun z => (by rw [d3] at c23; exact bI_0.mp c23 z.2.2))) (Pm_fnd rfl (kC.rf h) (by decide)))
