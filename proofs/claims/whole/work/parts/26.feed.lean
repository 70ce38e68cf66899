/-! ===== at, wipe, feed, status ===== -/
def tpF (σ : Sg) (v : Int32) : Nat → Int32 := fun i => match i with
  | 0 => σ 8 0
  | 1 => σ 8 1
  | _ => v
theorem abs_tp {h h2 : Mem} {f : Nat → Int32} (e66 : h2.1 66 = f) (e : ∀ c, c ≠ 66 → c ≠ 51 → h2.1 c = h.1 c) (e4 : h2.1 51 4 = h.1 51 4) (e15 : h2.1 51 15 = h.1 51 15) : absM h2 = sf (sf (absM h) 4 f) 8 (tpF (absM h) (h2.1 51 20)) := by
  refine abs_f _ _ (e 52 (by decide) (by decide)) (e 55 (by decide) (by decide)) (e 53 (by decide) (by decide)) (e 62 (by decide) (by decide)) e66 (e 67 (by decide) (by decide)) (e 68 (by decide) (by decide)) (e 69 (by decide) (by decide)) ?_ (fun k hk => ?_)
  · funext i
    match i with
    | 0 => exact e4
    | 1 => exact e15
    | i + 2 => rfl
  · obtain ⟨n, rfl⟩ := Nat.exists_eq_add_of_le hk
    rw [show 9 + n = n + 9 by omega]
    rfl
theorem CR_tp {h h2 : Mem} {σ : Sg} {f : Nat → Int32} (C : CR h σ) (e31 : ∀ j, j < 120 → h2.1 31 j = f j) (e : ∀ c, c ≠ 31 → c ≠ 30 → h2.1 c = h.1 c) : CR h2 (sf (sf σ 4 f) 8 (tpF σ (h2.1 30 1))) := by
  obtain ⟨a1, a2, a3, a4, a5, a6, a7, a8, a9, a10, a11⟩ := C
  refine ⟨a1.of (fun k hk => ?_), ?_, ?_, fun q => (a4 q).of (fun k hk => ?_), ?_, ?_, rfl, e31, ?_, ?_, ?_⟩
  · simp only [inB, Bool.or_eq_true, beq_iff_eq] at hk; exact e k (by omega) (by omega)
  · rw [e 29 (by decide) (by decide)]; exact a2
  · rw [e 0 (by decide) (by decide)]; exact a3
  · simp only [inB, Bool.or_eq_true, beq_iff_eq] at hk; exact e k (by omega) (by omega)
  · rw [e 0 (by decide) (by decide)]; exact a5
  · rw [e 50 (by decide) (by decide)]; exact a6
  · rw [e 35 (by decide) (by decide)]; exact a9
  · rw [e 36 (by decide) (by decide)]; exact a10
  · rw [e 37 (by decide) (by decide)]; exact a11
def op_at (a : Int32) (σ : Sg) : Int32 × Sg := if rng a 0 23 then (if ¬ σ 8 1 = 0 then (σ 3 (ca_n a), σ) else fnd σ 3) else fnd σ 0
set_option maxRecDepth 100000 in
set_option maxHeartbeats 400000 in
theorem co_at {h : Mem} {σ : Sg} (C : CR h σ) (a : Int32) : Ct yX9_at cX9_at 2 (some .int) 1 21 [.ref 0, .int a] h (Po h (op_at a σ)) := by
  refine Ct.of (by decide) (Nat.le_of_ble_eq_true rfl) (fun Γ o ρ => ?_)
  show ca_G Γ 2 _ _ [_, _] _
  refine g_iload_n (pc := 0) o dX9_at_0 rfl ?_
  refine g_if_lt (pc := 1) o 10 dX9_at_1 (by decide) (fun c1 => ?_) (fun c1 => ?_)
  · skip
    refine g_aload_n (pc := 10) o dX9_at_10 rfl ?_
    refine g_iconst (pc := 11) o dX9_at_11 0 rfl ?_
    refine g_callVi (pc := 12) o (c_finding 0 (by decide) h) mt_X9_finding mv_X9_finding lk_X9_58 rfl rfl rfl (by decide) rfl (Nat.le_of_ble_eq_true rfl) dX9_at_12 ?_
    exact g_iret o ρ dX9_at_15 (Po.eq (if_neg (fun z => (by have := (lt0 a).mp c1; have := z.1; omega))) (Po_fnd C (by decide)))
  · skip
    refine g_iload_n (pc := 4) o dX9_at_4 rfl ?_
    refine g_bipush (pc := 5) o dX9_at_5 24 rfl ?_
    refine g_ic_lt (pc := 7) o 16 dX9_at_7 (by decide) (fun c7 => ?_) (fun c7 => ?_)
    · skip
      have k1 := mt (lt0 a).mpr c1
      have k2 := (ltN a 24 (by decide)).mp c7
      have eq : op_at a σ = if ¬ σ 8 1 = 0 then (σ 3 (ca_n a), σ) else fnd σ 3 := if_pos ⟨by omega, by omega⟩
      rw [eq] at ρ
      obtain ⟨i, hi, rfl, ei⟩ := n_of (x := a) (b := 23) ⟨by omega, by omega⟩ (by decide)
      rw [ei] at ρ
      refine g_aload_n (pc := 16) o dX9_at_16 rfl ?_
      refine g_getIE (pc := 17) o 9 rfl rfl rfl inX9 (by decide) lf_X9_187 (C.2.2.2.2.1) dX9_at_17 ?_
      refine g_if_eq (pc := 20) o 32 dX9_at_20 (by decide) (fun c20 => ?_) (fun c20 => ?_)
      · skip
        refine g_aload_n (pc := 32) o dX9_at_32 rfl ?_
        refine g_iconst (pc := 33) o dX9_at_33 3 rfl ?_
        refine g_callVi (pc := 34) o (c_finding 3 (by decide) h) mt_X9_finding mv_X9_finding lk_X9_58 rfl rfl rfl (by decide) rfl (Nat.le_of_ble_eq_true rfl) dX9_at_34 ?_
        exact g_iret o ρ dX9_at_37 (Po.eq (if_neg (fun z => z c20)) (Po_fnd C (by decide)))
      · skip
        refine g_aload_n (pc := 23) o dX9_at_23 rfl ?_
        refine g_getR (pc := 24) o 8 rfl rfl rfl inX9 (by decide) lf_X9_51 dX9_at_24 ?_
        refine g_iload_n (pc := 27) o dX9_at_27 rfl ?_
        refine n_ialdE (pc := 28) o i (rfl) rfl ((by omega)) (by decide) (C.2.2.2.2.2.1 i (by omega)) dX9_at_28 ?_
        refine g_goto (pc := 29) o 37 dX9_at_29 (by decide) ?_
        exact g_iret o ρ dX9_at_37 (Po.eq (if_pos c20) (Po.mk rfl C (kM.rf h)))
    · skip
      refine g_aload_n (pc := 10) o dX9_at_10 rfl ?_
      refine g_iconst (pc := 11) o dX9_at_11 0 rfl ?_
      refine g_callVi (pc := 12) o (c_finding 0 (by decide) h) mt_X9_finding mv_X9_finding lk_X9_58 rfl rfl rfl (by decide) rfl (Nat.le_of_ble_eq_true rfl) dX9_at_12 ?_
      exact g_iret o ρ dX9_at_15 (Po.eq (if_neg (fun z => (by have := mt (ltN a 24 (by decide)).mpr c7; have := z.2; omega))) (Po_fnd C (by decide)))
set_option maxRecDepth 100000 in
set_option maxHeartbeats 400000 in
theorem mo_at {h : Mem} (a : Int32) : Ct yX10_at cX10_at 2 (some .int) 1 25 [.ref 51, .int a] h (Pm h (op_at a (absM h))) := by
  refine Ct.of (by decide) (Nat.le_of_ble_eq_true rfl) (fun Γ o ρ => ?_)
  show ca_G Γ 2 _ _ [_, _] _
  have d := in_rng a 0 23 (by decide)
  refine g_iload_n (pc := 0) o dX10_at_0 rfl ?_
  refine g_i2l (pc := 1) o dX10_at_1 ?_
  refine g_lconst (pc := 2) o dX10_at_2 0 rfl ?_
  refine g_ldc2 (pc := 3) o dX10_at_3 lc_X10_151 ?_
  refine g_callSi (pc := 6) o (m_in a.toInt64 0 23 h) mt_X10_in ms_X10_in lk_X10_71 rfl (by decide) rfl (Nat.le_of_ble_eq_true rfl) dX10_at_6 ?_
  refine g_if_ne (pc := 9) o 19 dX10_at_9 (by decide) (fun c9 => ?_) (fun c9 => ?_)
  · skip
    rw [d] at c9
    have eq : op_at a (absM h) = if ¬ h.1 51 15 = 0 then (h.1 62 (ca_n a), absM h) else fnd (absM h) 3 := if_pos (bI_n0.mp c9)
    rw [eq] at ρ
    obtain ⟨i, hi, rfl, ei⟩ := n_of (x := a) (b := 23) (bI_n0.mp c9) (by decide)
    rw [ei] at ρ
    refine g_aload_n (pc := 19) o dX10_at_19 rfl ?_
    refine g_getI (pc := 20) o 15 rfl rfl rfl inX10 (by decide) lf_X10_203 dX10_at_20 ?_
    refine g_if_eq (pc := 23) o 35 dX10_at_23 (by decide) (fun c23 => ?_) (fun c23 => ?_)
    · skip
      refine g_aload_n (pc := 35) o dX10_at_35 rfl ?_
      refine g_ldc (pc := 36) o dX10_at_36 lc_X10_97 ?_
      refine g_callVi (pc := 38) o (m_finds 3 (by decide) h) mt_X10_finds mv_X10_finds lk_X10_86 rfl rfl rfl (by decide) rfl (Nat.le_of_ble_eq_true rfl) dX10_at_38 ?_
      exact g_iret o ρ dX10_at_41 (Pm.eq (if_neg (fun z => z c23)) (Pm_fnd rfl (kC.rf h) (by decide)))
    · skip
      refine g_aload_n (pc := 26) o dX10_at_26 rfl ?_
      refine g_getR (pc := 27) o 14 rfl rfl rfl inX10 (by decide) lf_X10_40 dX10_at_27 ?_
      refine g_iload_n (pc := 30) o dX10_at_30 rfl ?_
      refine n_iald (pc := 31) o i (rfl) rfl ((by omega)) (by decide) dX10_at_31 ?_
      refine g_goto (pc := 32) o 41 dX10_at_32 (by decide) ?_
      exact g_iret o ρ dX10_at_41 (Pm.eq (if_pos c23) (Pm.mk rfl rfl (kC.rf h)))
  · skip
    refine g_aload_n (pc := 12) o dX10_at_12 rfl ?_
    refine g_ldc (pc := 13) o dX10_at_13 lc_X10_68 ?_
    refine g_callVi (pc := 15) o (m_finds 0 (by decide) h) mt_X10_finds mv_X10_finds lk_X10_86 rfl rfl rfl (by decide) rfl (Nat.le_of_ble_eq_true rfl) dX10_at_15 ?_
    exact g_iret o ρ dX10_at_18 (Pm.eq (if_neg (fun z => (by rw [d] at c9; exact bI_0.mp c9 z))) (Pm_fnd rfl (kC.rf h) (by decide)))
set_option maxRecDepth 100000 in
set_option maxHeartbeats 400000 in
theorem c_rsize {h : Mem} {v : Int32} (e : h.1 30 1 = v) : Ct yX3_size cX3_size 1 (some .int) 0 0 [.ref 30] h (Ei v h) := by
  refine Ct.of (by decide) (Nat.le_of_ble_eq_true rfl) (fun Γ o ρ => ?_)
  show ca_G Γ 1 _ _ [_] _
  refine g_aload_n (pc := 0) o dX3_size_0 rfl ?_
  refine g_getIE (pc := 1) o 1 rfl rfl rfl inX3 (by decide) lf_X3_21 (e) dX3_size_1 ?_
  exact g_iret o ρ dX3_size_4 (Ei.mk rfl rfl)
set_option maxRecDepth 100000 in
set_option maxHeartbeats 400000 in
theorem c_rroom {h : Mem} {v : Int32} (e : h.1 30 1 = v) : Ct yX3_room cX3_room 1 (some .int) 0 0 [.ref 30] h (Ei (120 - v) h) := by
  refine Ct.of (by decide) (Nat.le_of_ble_eq_true rfl) (fun Γ o ρ => ?_)
  show ca_G Γ 1 _ _ [_] _
  refine g_bipush (pc := 0) o dX3_room_0 120 rfl ?_
  refine g_aload_n (pc := 2) o dX3_room_2 rfl ?_
  refine g_getIE (pc := 3) o 1 rfl rfl rfl inX3 (by decide) lf_X3_21 (e) dX3_room_3 ?_
  refine g_isub (pc := 6) o dX3_room_6 ?_
  exact g_iret o ρ dX3_room_7 (Ei.mk rfl rfl)
set_option maxRecDepth 100000 in
set_option maxHeartbeats 400000 in
theorem c_rclear (h : Mem) : Ct yX3_clear cX3_clear 1 none 0 0 [.ref 30] h (Ev (mw h 30 1 0)) := by
  refine Ct.of (by decide) (Nat.le_of_ble_eq_true rfl) (fun Γ o ρ => ?_)
  show ca_G Γ 1 _ _ [_] _
  refine g_aload_n (pc := 0) o dX3_clear_0 rfl ?_
  refine g_iconst (pc := 1) o dX3_clear_1 0 rfl ?_
  refine g_put (pc := 2) o 1 rfl rfl rfl inX3 tyX3_ok nmX3 (by decide) lf_X3_21 rfl rfl rfl dX3_clear_2 ?_
  exact g_vret o ρ dX3_clear_5 ⟨rfl, rfl⟩
set_option maxRecDepth 100000 in
set_option maxHeartbeats 400000 in
theorem c_rput {h : Mem} {n : Nat} (hn : n < 120) (e : h.1 30 1 = nI n) (b : Int32) : Ct yX3_put cX3_put 2 none 0 0 [.ref 30, .int b] h (Ev (mw (mw h 31 n b) 30 1 (nI n + 1))) := by
  refine Ct.of (by decide) (Nat.le_of_ble_eq_true rfl) (fun Γ o ρ => ?_)
  show ca_G Γ 2 _ _ [_, _] _
  refine g_aload_n (pc := 0) o dX3_put_0 rfl ?_
  refine g_getR (pc := 1) o 0 rfl rfl rfl inX3 (by decide) lf_X3_11 dX3_put_1 ?_
  refine g_aload_n (pc := 4) o dX3_put_4 rfl ?_
  refine g_getIE (pc := 5) o 1 rfl rfl rfl inX3 (by decide) lf_X3_21 (e) dX3_put_5 ?_
  refine g_iload_n (pc := 8) o dX3_put_8 rfl ?_
  refine n_iast (pc := 9) o n (rfl) rfl ((by omega)) (by decide) dX3_put_9 ?_
  refine g_aload_n (pc := 10) o dX3_put_10 rfl ?_
  refine g_dup (pc := 11) o dX3_put_11 rfl ?_
  refine g_getIE (pc := 12) o 1 rfl rfl rfl inX3 (by decide) lf_X3_21 (e) dX3_put_12 ?_
  refine g_iconst (pc := 15) o dX3_put_15 1 rfl ?_
  refine g_iadd (pc := 16) o dX3_put_16 ?_
  refine g_put (pc := 17) o 1 rfl rfl rfl inX3 tyX3_ok nmX3 (by decide) lf_X3_21 rfl rfl rfl dX3_put_17 ?_
  exact g_vret o ρ dX3_put_20 ⟨rfl, rfl⟩
def op_wipe (σ : Sg) : Int32 × Sg := (σ 8 2, sf (sf σ 4 (σ 4)) 8 (tpF σ 0))
set_option maxRecDepth 100000 in
set_option maxHeartbeats 400000 in
theorem co_wipe {h : Mem} {σ : Sg} (C : CR h σ) : Ct yX9_wipe cX9_wipe 2 (some .int) 1 20 [.ref 0] h (Po h (op_wipe σ)) := by
  refine Ct.of (by decide) (Nat.le_of_ble_eq_true rfl) (fun Γ o ρ => ?_)
  show ca_G Γ 2 _ _ [_, _] _
  have e : h.1 30 1 = σ 8 2 := C.2.2.2.2.2.2.1
  refine g_aload_n (pc := 0) o dX9_wipe_0 rfl ?_
  refine g_getR (pc := 1) o 4 rfl rfl rfl inX9 (by decide) lf_X9_26 dX9_wipe_1 ?_
  refine g_callVi (pc := 4) o (c_rsize e) mt_X3_size mv_X3_size lk_X9_277 rfl rfl rfl (by decide) rfl (Nat.le_of_ble_eq_true rfl) dX9_wipe_4 ?_
  refine g_istore_n (pc := 7) o dX9_wipe_7 (by decide) ?_
  show ca_G Γ 2 _ _ [_, _] _
  refine g_aload_n (pc := 8) o dX9_wipe_8 rfl ?_
  refine g_getR (pc := 9) o 4 rfl rfl rfl inX9 (by decide) lf_X9_26 dX9_wipe_9 ?_
  refine g_callVv (pc := 12) o (c_rclear h) mt_X3_clear mv_X3_clear lk_X9_278 rfl rfl rfl (by decide) rfl (Nat.le_of_ble_eq_true rfl) dX9_wipe_12 ?_
  refine g_iload_n (pc := 15) o dX9_wipe_15 rfl ?_
  exact g_iret o ρ dX9_wipe_16 (Po.mk rfl (CR_tp (h2 := mw h 30 1 0) C (fun j hj => C.2.2.2.2.2.2.2.1 j hj) (fun c _ hc => mw_ne _ _ _ hc)) ((kM.rf h).mw (by decide)))
set_option maxRecDepth 100000 in
set_option maxHeartbeats 400000 in
theorem mo_wipe {h : Mem} : Ct yX10_wipe cX10_wipe 2 (some .int) 0 0 [.ref 51] h (Pm h (op_wipe (absM h))) := by
  refine Ct.of (by decide) (Nat.le_of_ble_eq_true rfl) (fun Γ o ρ => ?_)
  show ca_G Γ 2 _ _ [_, _] _
  refine g_aload_n (pc := 0) o dX10_wipe_0 rfl ?_
  refine g_getI (pc := 1) o 20 rfl rfl rfl inX10 (by decide) lf_X10_235 dX10_wipe_1 ?_
  refine g_istore_n (pc := 4) o dX10_wipe_4 (by decide) ?_
  show ca_G Γ 2 _ _ [_, _] _
  refine g_aload_n (pc := 5) o dX10_wipe_5 rfl ?_
  refine g_iconst (pc := 6) o dX10_wipe_6 0 rfl ?_
  refine g_put (pc := 7) o 20 rfl rfl rfl inX10 tyX10_ok nmX10 (by decide) lf_X10_235 rfl rfl rfl dX10_wipe_7 ?_
  refine g_iload_n (pc := 10) o dX10_wipe_10 rfl ?_
  exact g_iret o ρ dX10_wipe_11 (Pm.mk rfl (abs_tp (h2 := mw h 51 20 0) rfl (fun c _ hc => mw_ne _ _ _ hc) rfl rfl) ((kC.rf h).mw (by decide)))
def byF (x : Int32) (i : Nat) : Int32 := jushr x (nI (8 * i)) &&& 255
theorem by_s (x : Int32) {i : Nat} (hi : i < 4) : jshr x (nI (8 * i)) &&& 255 = byF x i := by
  apply b_ext
  intro j hj
  unfold byF jshr jushr
  rw [b_and, b_and, b_sshr _ (by omega) _ hj, b_ushr _ (by omega), b_255]
  by_cases q : j < 8
  · rw [if_pos (by omega)]
  · simp [q]
theorem by_lt (x : Int32) (i : Nat) : ∃ c, c < 256 ∧ byF x i = nI c := pk_andE _ 8 (by decide)
def fdF (x : Int32) (f : Nat → Int32) (n : Nat) : Nat → (Nat → Int32)
  | 0 => f
  | i + 1 => fdF x (upd f n (byF x i)) (n + 1) i
theorem fdF_s (x : Int32) (f : Nat → Int32) (n i : Nat) : fdF x f n (i + 1) = fdF x (upd f n (byF x i)) (n + 1) i := rfl
theorem fdF_cg (x : Int32) : ∀ (i n : Nat) (f g : Nat → Int32), (∀ j, j < 120 → f j = g j) → ∀ j, j < 120 → fdF x f n i j = fdF x g n i j
  | 0, n, f, g, e, j, hj => e j hj
  | i + 1, n, f, g, e, j, hj => fdF_cg x i (n + 1) _ _ (upd_cg e) j hj
def op_feed (x m : Int32) (σ : Sg) : Int32 × Sg := if rng m 1 4 then (if (σ 8 2).toInt + m.toInt ≤ 120 then (nI (ca_n (σ 8 2) + ca_n m), sf (sf σ 4 (fdF x (σ 4) (ca_n (σ 8 2)) (ca_n m))) 8 (tpF σ (nI (ca_n (σ 8 2) + ca_n m)))) else fnd σ 1) else fnd σ 0
theorem Iv.tp {σ : Sg} (I : Iv σ) : ∃ n, n ≤ 120 ∧ σ 8 2 = nI n ∧ (σ 8 2).toInt = n ∧ ca_n (σ 8 2) = n := by
  obtain ⟨n, hn, e⟩ := I.2.2.2.2.1
  exact ⟨n, hn, e, by rw [e, nI_toInt (by omega)], by rw [e]; exact nI_clamp (by omega)⟩
theorem by_ix (i : Nat) : nI 8 * nI i = nI (8 * i) := pk_mul 8 i
set_option maxRecDepth 100000 in
theorem lp_feed {Γ : Fr} (o : ca_O Γ cX9_feed 4 RX9 1 21) {Pr : Option Value → Mem → Prop} (ρ : ca_R Γ (some .int) Pr) (x m : Int32) {h0 : Mem} (T : Nat → Int32) (N : Nat) (hN : N ≤ 120) (hp : ∀ h2 : Mem, h2.1 31 = T → h2.1 30 1 = nI N → (∀ c, c ≠ 31 → c ≠ 30 → h2.1 c = h0.1 c) → Pr (some (.int (nI N))) h2) : ∀ i, i ≤ 4 → ∀ (xi : Int32) (h : Mem) (n : Nat), xi = nI i - 1 → n + i = N → h.1 30 1 = nI n → fdF x (h.1 31) n i = T → (∀ c, c ≠ 31 → c ≠ 30 → h.1 c = h0.1 c) → ca_G Γ 4 h 37 [some (.ref 0), some (.int x), some (.int m), some (.int xi)] [] := by
  intro i
  induction i with
  | zero =>
    rintro _ xi h n rfl e1 e2 e3 e4
    have e1 : n = N := by omega
    subst e1
    refine g_iload_n (pc := 37) o dX9_feed_37 rfl ?_
    refine g_if_lt (pc := 38) o 64 dX9_feed_38 (by decide) (fun c38 => ?_) (fun c38 => ?_)
    · skip
      refine g_aload_n (pc := 64) o dX9_feed_64 rfl ?_
      refine g_getR (pc := 65) o 4 rfl rfl rfl inX9 (by decide) lf_X9_26 dX9_feed_65 ?_
      refine g_callVi (pc := 68) o (c_rsize e2) mt_X3_size mv_X3_size lk_X9_277 rfl rfl rfl (by decide) rfl (Nat.le_of_ble_eq_true rfl) dX9_feed_68 ?_
      exact g_iret o ρ dX9_feed_71 (hp h e3 e2 e4)
    · skip
      exact absurd (by decide) c38
  | succ i ih =>
    rintro hi xi h n rfl e1 e2 e3 e4
    rw [nI_pred]
    rw [fdF_s] at e3
    refine g_iload_n (pc := 37) o dX9_feed_37 rfl ?_
    refine g_if_lt (pc := 38) o 64 dX9_feed_38 (by decide) (fun c38 => ?_) (fun c38 => ?_)
    · skip
      exact absurd c38 (nI_pos (by omega))
    · skip
      refine g_aload_n (pc := 41) o dX9_feed_41 rfl ?_
      refine g_getR (pc := 42) o 4 rfl rfl rfl inX9 (by decide) lf_X9_26 dX9_feed_42 ?_
      refine g_iload_n (pc := 45) o dX9_feed_45 rfl ?_
      refine g_bipush (pc := 46) o dX9_feed_46 8 rfl ?_
      refine g_iload_n (pc := 48) o dX9_feed_48 rfl ?_
      refine g_imul (pc := 49) o dX9_feed_49 ?_
      rw [show (8 : Int32) = nI 8 from rfl, by_ix]
      refine g_iushr (pc := 50) o dX9_feed_50 ?_
      refine g_sipush (pc := 51) o dX9_feed_51 255 rfl ?_
      refine g_iand (pc := 54) o dX9_feed_54 ?_
      show ca_G Γ 4 h _ _ [.int (byF x i), .ref 30]
      refine g_callVv (pc := 55) o (c_rput (n := n) (by omega) e2 (byF x i)) mt_X3_put mv_X3_put lk_X9_273 rfl rfl rfl (by decide) rfl (Nat.le_of_ble_eq_true rfl) dX9_feed_55 ?_
      refine g_iinc (pc := 58) o dX9_feed_58 rfl (-1) rfl (by decide) ?_
      show ca_G Γ 4 _ _ [_, _, _, _] _
      refine g_goto (pc := 61) o 37 dX9_feed_61 (by decide) ?_
      exact ih (by omega) _ _ (n + 1) (Int32.sub_eq_add_neg _ _).symm (by omega) (nI_1 n) e3 (fun c c1 c2 => (mw_ne _ _ _ c2).trans ((mw_ne _ _ _ c1).trans (e4 c c1 c2)))
set_option maxRecDepth 100000 in
set_option maxHeartbeats 400000 in
theorem co_feed {h : Mem} {σ : Sg} (C : CR h σ) (I : Iv σ) (x m : Int32) : Ct yX9_feed cX9_feed 4 (some .int) 1 21 [.ref 0, .int x, .int m] h (Po h (op_feed x m σ)) := by
  refine Ct.of (by decide) (Nat.le_of_ble_eq_true rfl) (fun Γ o ρ => ?_)
  show ca_G Γ 4 _ _ [_, _, _, _] _
  obtain ⟨n, hn, en, tn, cn⟩ := I.tp
  have e : h.1 30 1 = nI n := C.2.2.2.2.2.2.1.trans en
  refine g_iload_n (pc := 0) o dX9_feed_0 rfl ?_
  refine g_iconst (pc := 1) o dX9_feed_1 1 rfl ?_
  refine g_ic_lt (pc := 2) o 10 dX9_feed_2 (by decide) (fun c2 => ?_) (fun c2 => ?_)
  · skip
    refine g_aload_n (pc := 10) o dX9_feed_10 rfl ?_
    refine g_iconst (pc := 11) o dX9_feed_11 0 rfl ?_
    refine g_callVi (pc := 12) o (c_finding 0 (by decide) h) mt_X9_finding mv_X9_finding lk_X9_58 rfl rfl rfl (by decide) rfl (Nat.le_of_ble_eq_true rfl) dX9_feed_12 ?_
    exact g_iret o ρ dX9_feed_15 (Po.eq (if_neg (fun z => (by have := (ltN m 1 (by decide)).mp c2; have := z.1; omega))) (Po_fnd C (by decide)))
  · skip
    refine g_iload_n (pc := 5) o dX9_feed_5 rfl ?_
    refine g_iconst (pc := 6) o dX9_feed_6 4 rfl ?_
    refine g_ic_le (pc := 7) o 16 dX9_feed_7 (by decide) (fun c7 => ?_) (fun c7 => ?_)
    · skip
      have k1 := mt (ltN m 1 (by decide)).mpr c2
      have k2 := (leN m 4 (by decide)).mp c7
      have eq : op_feed x m σ = if (σ 8 2).toInt + m.toInt ≤ 120 then (nI (ca_n (σ 8 2) + ca_n m), sf (sf σ 4 (fdF x (σ 4) (ca_n (σ 8 2)) (ca_n m))) 8 (tpF σ (nI (ca_n (σ 8 2) + ca_n m)))) else fnd σ 1 := if_pos ⟨by omega, by omega⟩
      rw [eq, cn] at ρ
      obtain ⟨i, hi, rfl, ei⟩ := n_of (x := m) (b := 4) ⟨by omega, by omega⟩ (by decide)
      rw [ei] at ρ
      clear eq
      have ti : (nI i).toInt = i := nI_toInt (by omega)
      have es : (120 : Int32) - nI n = nI (120 - n) := pk_sub hn
      refine g_iload_n (pc := 16) o dX9_feed_16 rfl ?_
      refine g_aload_n (pc := 17) o dX9_feed_17 rfl ?_
      refine g_getR (pc := 18) o 4 rfl rfl rfl inX9 (by decide) lf_X9_26 dX9_feed_18 ?_
      refine g_callVi (pc := 21) o (c_rroom e) mt_X3_room mv_X3_room lk_X9_270 rfl rfl rfl (by decide) rfl (Nat.le_of_ble_eq_true rfl) dX9_feed_21 ?_
      rw [es]
      refine g_ic_le (pc := 24) o 33 dX9_feed_24 (by decide) (fun c24 => ?_) (fun c24 => ?_)
      · skip
        have k3 := (nI_leI (a := i) (b := 120 - n) (by omega) (by omega)).mp c24
        rw [if_pos (by omega)] at ρ
        refine g_iload_n (pc := 33) o dX9_feed_33 rfl ?_
        refine g_iconst (pc := 34) o dX9_feed_34 1 rfl ?_
        refine g_isub (pc := 35) o dX9_feed_35 ?_
        refine g_istore_n (pc := 36) o dX9_feed_36 (by decide) ?_
        show ca_G Γ 4 _ _ [_, _, _, _] _
        refine lp_feed o ρ x (nI i) (h0 := h) (fdF x (h.1 31) n i) (n + i) (by omega) (fun h2 g1 g2 g3 => ?_) i hi _ h n rfl rfl e rfl (fun _ _ _ => rfl)
        have := CR_tp (h2 := h2) (f := fdF x (σ 4) n i) C (by rw [g1]; exact fdF_cg x i n _ _ C.2.2.2.2.2.2.2.1) g3
        rw [g2] at this
        exact Po.mk rfl this (fun c hc => g3 c (by omega) (by omega))
      · skip
        refine g_aload_n (pc := 27) o dX9_feed_27 rfl ?_
        refine g_iconst (pc := 28) o dX9_feed_28 1 rfl ?_
        refine g_callVi (pc := 29) o (c_finding 1 (by decide) h) mt_X9_finding mv_X9_finding lk_X9_58 rfl rfl rfl (by decide) rfl (Nat.le_of_ble_eq_true rfl) dX9_feed_29 ?_
        exact g_iret o ρ dX9_feed_32 (Po.eq (if_neg (fun z => c24 ((nI_leI (by omega) (by omega)).mpr (by omega)))) (Po_fnd C (by decide)))
    · skip
      refine g_aload_n (pc := 10) o dX9_feed_10 rfl ?_
      refine g_iconst (pc := 11) o dX9_feed_11 0 rfl ?_
      refine g_callVi (pc := 12) o (c_finding 0 (by decide) h) mt_X9_finding mv_X9_finding lk_X9_58 rfl rfl rfl (by decide) rfl (Nat.le_of_ble_eq_true rfl) dX9_feed_12 ?_
      exact g_iret o ρ dX9_feed_15 (Po.eq (if_neg (fun z => (by have := mt (leN m 4 (by decide)).mpr c7; have := z.2; omega))) (Po_fnd C (by decide)))
set_option maxRecDepth 100000 in
theorem lp_mfeed {Γ : Fr} (o : ca_O Γ cX10_feed 4 RX10 1 25) {Pr : Option Value → Mem → Prop} (ρ : ca_R Γ (some .int) Pr) (x m : Int32) {h0 : Mem} (T : Nat → Int32) (N : Nat) (hN : N ≤ 120) (hp : ∀ h2 : Mem, h2.1 66 = T → h2.1 51 20 = nI N → (∀ c, c ≠ 66 → c ≠ 51 → h2.1 c = h0.1 c) → h2.1 51 4 = h0.1 51 4 → h2.1 51 15 = h0.1 51 15 → Pr (some (.int (nI N))) h2) : ∀ i, i ≤ 4 → ∀ (xi : Int32) (h : Mem) (n : Nat), xi = nI i - 1 → n + i = N → h.1 51 20 = nI n → fdF x (h.1 66) n i = T → (∀ c, c ≠ 66 → c ≠ 51 → h.1 c = h0.1 c) → h.1 51 4 = h0.1 51 4 → h.1 51 15 = h0.1 51 15 → ca_G Γ 4 h 41 [some (.ref 51), some (.int x), some (.int m), some (.int xi)] [] := by
  intro i
  induction i with
  | zero =>
    rintro _ xi h n rfl e1 e2 e3 e4 e5 e6
    have e1 : n = N := by omega
    subst e1
    refine g_iload_n (pc := 41) o dX10_feed_41 rfl ?_
    refine g_if_lt (pc := 42) o 80 dX10_feed_42 (by decide) (fun c42 => ?_) (fun c42 => ?_)
    · skip
      refine g_aload_n (pc := 80) o dX10_feed_80 rfl ?_
      refine g_getIE (pc := 81) o 20 rfl rfl rfl inX10 (by decide) lf_X10_235 (e2) dX10_feed_81 ?_
      exact g_iret o ρ dX10_feed_84 (hp h e3 e2 e4 e5 e6)
    · skip
      exact absurd (by decide) c42
  | succ i ih =>
    rintro hi xi h n rfl e1 e2 e3 e4 e5 e6
    rw [nI_pred]
    rw [fdF_s] at e3
    refine g_iload_n (pc := 41) o dX10_feed_41 rfl ?_
    refine g_if_lt (pc := 42) o 80 dX10_feed_42 (by decide) (fun c42 => ?_) (fun c42 => ?_)
    · skip
      exact absurd c42 (nI_pos (by omega))
    · skip
      refine g_aload_n (pc := 45) o dX10_feed_45 rfl ?_
      refine g_getR (pc := 46) o 19 rfl rfl rfl inX10 (by decide) lf_X10_53 dX10_feed_46 ?_
      refine g_aload_n (pc := 49) o dX10_feed_49 rfl ?_
      refine g_getIE (pc := 50) o 20 rfl rfl rfl inX10 (by decide) lf_X10_235 (e2) dX10_feed_50 ?_
      refine g_iload_n (pc := 53) o dX10_feed_53 rfl ?_
      refine g_bipush (pc := 54) o dX10_feed_54 8 rfl ?_
      refine g_iload_n (pc := 56) o dX10_feed_56 rfl ?_
      refine g_imul (pc := 57) o dX10_feed_57 ?_
      rw [show (8 : Int32) = nI 8 from rfl, by_ix]
      refine g_ishr (pc := 58) o dX10_feed_58 ?_
      refine g_sipush (pc := 59) o dX10_feed_59 255 rfl ?_
      refine g_iand (pc := 62) o dX10_feed_62 ?_
      rw [show (255 : Int32) = 255 from rfl, by_s x (i := i) (by omega)]
      refine n_iast (pc := 63) o n (rfl) rfl ((by omega)) (by decide) dX10_feed_63 ?_
      refine g_aload_n (pc := 64) o dX10_feed_64 rfl ?_
      refine g_dup (pc := 65) o dX10_feed_65 rfl ?_
      refine g_getIE (pc := 66) o 20 rfl rfl rfl inX10 (by decide) lf_X10_235 (e2) dX10_feed_66 ?_
      refine g_iconst (pc := 69) o dX10_feed_69 1 rfl ?_
      refine g_iadd (pc := 70) o dX10_feed_70 ?_
      refine g_put (pc := 71) o 20 rfl rfl rfl inX10 tyX10_ok nmX10 (by decide) lf_X10_235 rfl rfl rfl dX10_feed_71 ?_
      refine g_iinc (pc := 74) o dX10_feed_74 rfl (-1) rfl (by decide) ?_
      show ca_G Γ 4 _ _ [_, _, _, _] _
      refine g_goto (pc := 77) o 41 dX10_feed_77 (by decide) ?_
      exact ih (by omega) _ _ (n + 1) (Int32.sub_eq_add_neg _ _).symm (by omega) (nI_1 n) e3 (fun c c1 c2 => (mw_ne _ _ _ c2).trans ((mw_ne _ _ _ c1).trans (e4 c c1 c2))) e5 e6
set_option maxRecDepth 100000 in
set_option maxHeartbeats 400000 in
theorem mo_feed {h : Mem} (I : Iv (absM h)) (x m : Int32) : Ct yX10_feed cX10_feed 4 (some .int) 1 25 [.ref 51, .int x, .int m] h (Pm h (op_feed x m (absM h))) := by
  refine Ct.of (by decide) (Nat.le_of_ble_eq_true rfl) (fun Γ o ρ => ?_)
  show ca_G Γ 4 _ _ [_, _, _, _] _
  obtain ⟨n, hn, en, tn, cn⟩ := I.tp
  have e : h.1 51 20 = nI n := en
  have d := in_rng m 1 4 (by decide)
  refine g_iload_n (pc := 0) o dX10_feed_0 rfl ?_
  refine g_i2l (pc := 1) o dX10_feed_1 ?_
  refine g_lconst (pc := 2) o dX10_feed_2 1 rfl ?_
  refine g_ldc2 (pc := 3) o dX10_feed_3 lc_X10_109 ?_
  refine g_callSi (pc := 6) o (m_in m.toInt64 1 4 h) mt_X10_in ms_X10_in lk_X10_71 rfl (by decide) rfl (Nat.le_of_ble_eq_true rfl) dX10_feed_6 ?_
  refine g_if_ne (pc := 9) o 19 dX10_feed_9 (by decide) (fun c9 => ?_) (fun c9 => ?_)
  · skip
    rw [d] at c9
    have k1 := bI_n0.mp c9
    have eq : op_feed x m (absM h) = if ((absM h) 8 2).toInt + m.toInt ≤ 120 then (nI (ca_n ((absM h) 8 2) + ca_n m), sf (sf (absM h) 4 (fdF x (h.1 66) (ca_n ((absM h) 8 2)) (ca_n m))) 8 (tpF (absM h) (nI (ca_n ((absM h) 8 2) + ca_n m)))) else fnd (absM h) 1 := if_pos k1
    rw [eq, cn, tn] at ρ
    obtain ⟨i, hi, rfl, ei⟩ := n_of (x := m) (b := 4) ⟨Int.le_trans (by decide) k1.1, k1.2⟩ (by decide)
    rw [ei] at ρ
    clear eq
    have ti : (nI i).toInt = i := nI_toInt (by omega)
    rw [ti] at ρ
    refine g_aload_n (pc := 19) o dX10_feed_19 rfl ?_
    refine g_getIE (pc := 20) o 20 rfl rfl rfl inX10 (by decide) lf_X10_235 (e) dX10_feed_20 ?_
    refine g_iload_n (pc := 23) o dX10_feed_23 rfl ?_
    refine g_iadd (pc := 24) o dX10_feed_24 ?_
    rw [nI_add]
    refine g_bipush (pc := 25) o dX10_feed_25 120 rfl ?_
    refine g_ic_le (pc := 27) o 37 dX10_feed_27 (by decide) (fun c27 => ?_) (fun c27 => ?_)
    · skip
      have k3 := (nI_leI (a := n + i) (b := 120) (by omega) (by decide)).mp c27
      rw [if_pos (by omega)] at ρ
      refine g_iload_n (pc := 37) o dX10_feed_37 rfl ?_
      refine g_iconst (pc := 38) o dX10_feed_38 1 rfl ?_
      refine g_isub (pc := 39) o dX10_feed_39 ?_
      refine g_istore_n (pc := 40) o dX10_feed_40 (by decide) ?_
      show ca_G Γ 4 _ _ [_, _, _, _] _
      refine lp_mfeed o ρ x (nI i) (h0 := h) (fdF x (h.1 66) n i) (n + i) (by omega) (fun h2 g1 g2 g3 g4 g5 => ?_) i hi _ h n rfl rfl e rfl (fun _ _ _ => rfl) rfl rfl
      have := abs_tp (h2 := h2) g1 g3 g4 g5
      rw [g2] at this
      exact Pm.mk rfl this (fun c hc => g3 c (by omega) (by omega))
    · skip
      refine g_aload_n (pc := 30) o dX10_feed_30 rfl ?_
      refine g_ldc (pc := 31) o dX10_feed_31 lc_X10_104 ?_
      refine g_callVi (pc := 33) o (m_finds 1 (by decide) h) mt_X10_finds mv_X10_finds lk_X10_86 rfl rfl rfl (by decide) rfl (Nat.le_of_ble_eq_true rfl) dX10_feed_33 ?_
      exact g_iret o ρ dX10_feed_36 (Pm.eq (if_neg (fun z => c27 ((nI_leI (a := n + i) (b := 120) (by omega) (by decide)).mpr (by omega)))) (Pm_fnd rfl (kC.rf h) (by decide)))
  · skip
    refine g_aload_n (pc := 12) o dX10_feed_12 rfl ?_
    refine g_ldc (pc := 13) o dX10_feed_13 lc_X10_68 ?_
    refine g_callVi (pc := 15) o (m_finds 0 (by decide) h) mt_X10_finds mv_X10_finds lk_X10_86 rfl rfl rfl (by decide) rfl (Nat.le_of_ble_eq_true rfl) dX10_feed_15 ?_
    exact g_iret o ρ dX10_feed_18 (Pm.eq (if_neg (fun z => (by rw [d] at c9; exact bI_0.mp c9 z))) (Pm_fnd rfl (kC.rf h) (by decide)))
def stF (f : Nat → Int32) : Nat → Int32
  | 0 => 0
  | n + 1 => stF f n + f n
def op_status (a : Int32) (σ : Sg) : Int32 × Sg := if rng a (-1) 6 then ((if a < 0 then stF (σ 1) 7 else σ 1 (ca_n a)), σ) else fnd σ 0
set_option maxRecDepth 100000 in
theorem lp_status {Γ : Fr} (o : ca_O Γ cX9_status 4 RX9 1 21) {Pr : Option Value → Mem → Prop} (ρ : ca_R Γ (some .int) Pr) {h : Mem} {σ : Sg} (C : CR h σ) (a : Int32) (hp : Pr (some (.int (stF (σ 1) 7))) h) : ∀ i, i ≤ 7 → ∀ xi y : Int32, xi = nI i → y = stF (σ 1) i → ca_G Γ 4 h 32 [some (.ref 0), some (.int a), some (.int y), some (.int xi)] [] := by
  refine downI 7 (fun i hi ih => ?_)
  rintro xi y rfl rfl
  refine g_iload_n (pc := 32) o dX9_status_32 rfl ?_
  refine g_bipush (pc := 33) o dX9_status_33 7 rfl ?_
  refine g_ic_ge (pc := 35) o 53 dX9_status_35 (by decide) (fun c35 => ?_) (fun c35 => ?_)
  · skip
    have e : i = 7 := ge8 (n := 7) (by omega) (by omega) c35
    subst e
    refine g_iload_n (pc := 53) o dX9_status_53 rfl ?_
    exact g_iret o ρ dX9_status_54 hp
  · skip
    have e : i < 7 := lt8 (n := 7) (by omega) (by omega) c35
    refine g_iload_n (pc := 38) o dX9_status_38 rfl ?_
    refine g_aload_n (pc := 39) o dX9_status_39 rfl ?_
    refine g_getR (pc := 40) o 3 rfl rfl rfl inX9 (by decide) lf_X9_19 dX9_status_40 ?_
    refine g_iload_n (pc := 43) o dX9_status_43 rfl ?_
    refine n_ialdE (pc := 44) o i (rfl) rfl ((by omega)) (by decide) (C.2.1 i e) dX9_status_44 ?_
    refine g_iadd (pc := 45) o dX9_status_45 ?_
    refine g_istore_n (pc := 46) o dX9_status_46 (by decide) ?_
    show ca_G Γ 4 _ _ [_, _, _, _] _
    refine g_iinc (pc := 47) o dX9_status_47 rfl 1 rfl (by decide) ?_
    show ca_G Γ 4 _ _ [_, _, _, _] _
    refine g_goto (pc := 50) o 32 dX9_status_50 (by decide) ?_
    exact ih e _ _ (nI_1 i) rfl
set_option maxRecDepth 100000 in
set_option maxHeartbeats 400000 in
theorem co_status {h : Mem} {σ : Sg} (C : CR h σ) (a : Int32) : Ct yX9_status cX9_status 4 (some .int) 1 21 [.ref 0, .int a] h (Po h (op_status a σ)) := by
  refine Ct.of (by decide) (Nat.le_of_ble_eq_true rfl) (fun Γ o ρ => ?_)
  show ca_G Γ 4 _ _ [_, _, _, _] _
  have m1 : (-1 : Int32).toInt = -1 := by decide
  refine g_iload_n (pc := 0) o dX9_status_0 rfl ?_
  refine g_iconst (pc := 1) o dX9_status_1 (-1) rfl ?_
  refine g_ic_lt (pc := 2) o 11 dX9_status_2 (by decide) (fun c2 => ?_) (fun c2 => ?_)
  · skip
    refine g_aload_n (pc := 11) o dX9_status_11 rfl ?_
    refine g_iconst (pc := 12) o dX9_status_12 0 rfl ?_
    refine g_callVi (pc := 13) o (c_finding 0 (by decide) h) mt_X9_finding mv_X9_finding lk_X9_58 rfl rfl rfl (by decide) rfl (Nat.le_of_ble_eq_true rfl) dX9_status_13 ?_
    exact g_iret o ρ dX9_status_16 (Po.eq (if_neg (fun z => (by have := Int32.lt_iff_toInt_lt.mp c2; have := z.1; omega))) (Po_fnd C (by decide)))
  · skip
    refine g_iload_n (pc := 5) o dX9_status_5 rfl ?_
    refine g_bipush (pc := 6) o dX9_status_6 7 rfl ?_
    refine g_ic_lt (pc := 8) o 17 dX9_status_8 (by decide) (fun c8 => ?_) (fun c8 => ?_)
    · skip
      have k1 := mt Int32.lt_iff_toInt_lt.mpr c2
      have k2 := (ltN a 7 (by decide)).mp c8
      have eq : op_status a σ = ((if a < 0 then stF (σ 1) 7 else σ 1 (ca_n a)), σ) := if_pos ⟨by omega, by omega⟩
      rw [eq] at ρ
      refine g_iload_n (pc := 17) o dX9_status_17 rfl ?_
      refine g_if_lt (pc := 18) o 28 dX9_status_18 (by decide) (fun c18 => ?_) (fun c18 => ?_)
      · skip
        refine g_iconst (pc := 28) o dX9_status_28 0 rfl ?_
        refine g_istore_n (pc := 29) o dX9_status_29 (by decide) ?_
        show ca_G Γ 4 _ _ [_, _, _, _] _
        refine g_iconst (pc := 30) o dX9_status_30 0 rfl ?_
        refine g_istore_n (pc := 31) o dX9_status_31 (by decide) ?_
        show ca_G Γ 4 _ _ [_, _, _, _] _
        exact lp_status o ρ C a (Po.mk (if_pos c18).symm C (kM.rf h)) 0 (by omega) 0 0 rfl rfl
      · skip
        have k3 := mt (lt0 a).mpr c18
        obtain ⟨i, hi, rfl, ei⟩ := n_of (x := a) (b := 6) ⟨by omega, by omega⟩ (by decide)
        rw [ei, if_neg c18] at ρ
        refine g_aload_n (pc := 21) o dX9_status_21 rfl ?_
        refine g_getR (pc := 22) o 3 rfl rfl rfl inX9 (by decide) lf_X9_19 dX9_status_22 ?_
        refine g_iload_n (pc := 25) o dX9_status_25 rfl ?_
        refine n_ialdE (pc := 26) o i (rfl) rfl ((by omega)) (by decide) (C.2.1 i (by omega)) dX9_status_26 ?_
        exact g_iret o ρ dX9_status_27 (Po.mk rfl C (kM.rf h))
    · skip
      refine g_aload_n (pc := 11) o dX9_status_11 rfl ?_
      refine g_iconst (pc := 12) o dX9_status_12 0 rfl ?_
      refine g_callVi (pc := 13) o (c_finding 0 (by decide) h) mt_X9_finding mv_X9_finding lk_X9_58 rfl rfl rfl (by decide) rfl (Nat.le_of_ble_eq_true rfl) dX9_status_13 ?_
      exact g_iret o ρ dX9_status_16 (Po.eq (if_neg (fun z => (by have := mt (ltN a 7 (by decide)).mpr c8; have := z.2; omega))) (Po_fnd C (by decide)))
def s1F (f : Nat → Int32) (a : Int32) : Nat → Int32
  | 0 => 0
  | n + 1 => s1F f a n + (if a < 0 ∨ nI n = a then f n else 0)
theorem s1F_s (f : Nat → Int32) (a : Int32) (n : Nat) : s1F f a (n + 1) = s1F f a n + (if a < 0 ∨ nI n = a then f n else 0) := rfl
theorem s1F_neg (f : Nat → Int32) (a : Int32) (h : a < 0) : ∀ n, s1F f a n = stF f n
  | 0 => rfl
  | n + 1 => by rw [s1F_s, if_pos (Or.inl h), s1F_neg f a h n]; rfl
theorem s1F_one (f : Nat → Int32) (k : Nat) (hk : k < 7) : ∀ n, n ≤ 7 → s1F f (nI k) n = if k < n then f k else 0
  | 0, _ => rfl
  | n + 1, hn => by
    rw [s1F_s, s1F_one f k hk n (by omega)]
    by_cases e : n = k
    · subst e
      rw [if_neg (Nat.lt_irrefl n), if_pos (Or.inr rfl), if_pos (by omega)]
      exact Int32.zero_add _
    · have : ¬ (nI k < 0 ∨ nI n = nI k) := fun z => z.elim (nI_pos (by omega)) (fun q => e ((nI_eq (by omega) (by omega)).mp q))
      rw [if_neg this, Int32.add_zero]
      by_cases q : k < n
      · rw [if_pos q, if_pos (by omega)]
      · rw [if_neg q, if_neg (by omega)]
set_option maxRecDepth 100000 in
theorem lp_mstatus {Γ : Fr} (o : ca_O Γ cX10_status 4 RX10 1 25) {Pr : Option Value → Mem → Prop} (ρ : ca_R Γ (some .int) Pr) {h : Mem} (a : Int32) (hp : Pr (some (.int (s1F (h.1 55) a 7))) h) : ∀ i, i ≤ 7 → ∀ xi y : Int32, xi = nI i → y = s1F (h.1 55) a i → ca_G Γ 4 h 25 [some (.ref 51), some (.int a), some (.int y), some (.int xi)] [] := by
  refine downI 7 (fun i hi ih => ?_)
  rintro xi y rfl rfl
  refine g_iload_n (pc := 25) o dX10_status_25 rfl ?_
  refine g_bipush (pc := 26) o dX10_status_26 7 rfl ?_
  refine g_ic_ge (pc := 28) o 59 dX10_status_28 (by decide) (fun c28 => ?_) (fun c28 => ?_)
  · skip
    have e : i = 7 := ge8 (n := 7) (by omega) (by omega) c28
    subst e
    refine g_iload_n (pc := 59) o dX10_status_59 rfl ?_
    exact g_iret o ρ dX10_status_60 hp
  · skip
    have e : i < 7 := lt8 (n := 7) (by omega) (by omega) c28
    refine g_iload_n (pc := 31) o dX10_status_31 rfl ?_
    refine g_iload_n (pc := 32) o dX10_status_32 rfl ?_
    refine g_if_lt (pc := 33) o 41 dX10_status_33 (by decide) (fun c33 => ?_) (fun c33 => ?_)
    · skip
      refine g_aload_n (pc := 41) o dX10_status_41 rfl ?_
      refine g_getR (pc := 42) o 3 rfl rfl rfl inX10 (by decide) lf_X10_19 dX10_status_42 ?_
      refine g_iload_n (pc := 45) o dX10_status_45 rfl ?_
      refine n_iald (pc := 46) o i (rfl) rfl ((by omega)) (by decide) dX10_status_46 ?_
      refine g_goto (pc := 47) o 51 dX10_status_47 (by decide) ?_
      refine g_iadd (pc := 51) o dX10_status_51 ?_
      refine g_istore_n (pc := 52) o dX10_status_52 (by decide) ?_
      show ca_G Γ 4 _ _ [_, _, _, _] _
      refine g_iinc (pc := 53) o dX10_status_53 rfl 1 rfl (by decide) ?_
      show ca_G Γ 4 _ _ [_, _, _, _] _
      refine g_goto (pc := 56) o 25 dX10_status_56 (by decide) ?_
      exact ih e _ _ (nI_1 i) (by rw [s1F_s, if_pos (Or.inl c33)])
    · skip
      refine g_iload_n (pc := 36) o dX10_status_36 rfl ?_
      refine g_iload_n (pc := 37) o dX10_status_37 rfl ?_
      refine g_ic_ne (pc := 38) o 50 dX10_status_38 (by decide) (fun c38 => ?_) (fun c38 => ?_)
      · skip
        refine g_iconst (pc := 50) o dX10_status_50 0 rfl ?_
        refine g_iadd (pc := 51) o dX10_status_51 ?_
        refine g_istore_n (pc := 52) o dX10_status_52 (by decide) ?_
        show ca_G Γ 4 _ _ [_, _, _, _] _
        refine g_iinc (pc := 53) o dX10_status_53 rfl 1 rfl (by decide) ?_
        show ca_G Γ 4 _ _ [_, _, _, _] _
        refine g_goto (pc := 56) o 25 dX10_status_56 (by decide) ?_
        exact ih e _ _ (nI_1 i) (by rw [s1F_s, if_neg (fun z => z.elim c33 c38)])
      · skip
        refine g_aload_n (pc := 41) o dX10_status_41 rfl ?_
        refine g_getR (pc := 42) o 3 rfl rfl rfl inX10 (by decide) lf_X10_19 dX10_status_42 ?_
        refine g_iload_n (pc := 45) o dX10_status_45 rfl ?_
        refine n_iald (pc := 46) o i (rfl) rfl ((by omega)) (by decide) dX10_status_46 ?_
        refine g_goto (pc := 47) o 51 dX10_status_47 (by decide) ?_
        refine g_iadd (pc := 51) o dX10_status_51 ?_
        refine g_istore_n (pc := 52) o dX10_status_52 (by decide) ?_
        show ca_G Γ 4 _ _ [_, _, _, _] _
        refine g_iinc (pc := 53) o dX10_status_53 rfl 1 rfl (by decide) ?_
        show ca_G Γ 4 _ _ [_, _, _, _] _
        refine g_goto (pc := 56) o 25 dX10_status_56 (by decide) ?_
        exact ih e _ _ (nI_1 i) (by rw [s1F_s, if_pos (Or.inr c38)])
set_option maxRecDepth 100000 in
set_option maxHeartbeats 400000 in
theorem mo_status {h : Mem} (a : Int32) : Ct yX10_status cX10_status 4 (some .int) 1 25 [.ref 51, .int a] h (Pm h (op_status a (absM h))) := by
  refine Ct.of (by decide) (Nat.le_of_ble_eq_true rfl) (fun Γ o ρ => ?_)
  show ca_G Γ 4 _ _ [_, _, _, _] _
  have d := in_rng a (-1) 6 (by decide)
  refine g_iload_n (pc := 0) o dX10_status_0 rfl ?_
  refine g_i2l (pc := 1) o dX10_status_1 ?_
  refine g_ldc2 (pc := 2) o dX10_status_2 lc_X10_321 ?_
  refine g_ldc2 (pc := 5) o dX10_status_5 lc_X10_137 ?_
  refine g_callSi (pc := 8) o (m_in a.toInt64 (-1) 6 h) mt_X10_in ms_X10_in lk_X10_71 rfl (by decide) rfl (Nat.le_of_ble_eq_true rfl) dX10_status_8 ?_
  refine g_if_ne (pc := 11) o 21 dX10_status_11 (by decide) (fun c11 => ?_) (fun c11 => ?_)
  · skip
    rw [d] at c11
    have k1 := bI_n0.mp c11
    have eq : op_status a (absM h) = ((if a < 0 then stF (h.1 55) 7 else h.1 55 (ca_n a)), absM h) := if_pos k1
    rw [eq] at ρ
    refine g_iconst (pc := 21) o dX10_status_21 0 rfl ?_
    refine g_istore_n (pc := 22) o dX10_status_22 (by decide) ?_
    show ca_G Γ 4 _ _ [_, _, _, _] _
    refine g_iconst (pc := 23) o dX10_status_23 0 rfl ?_
    refine g_istore_n (pc := 24) o dX10_status_24 (by decide) ?_
    show ca_G Γ 4 _ _ [_, _, _, _] _
    refine lp_mstatus o ρ a (Pm.mk ?_ rfl (kC.rf h)) 0 (by omega) 0 0 rfl rfl
    show s1F (h.1 55) a 7 = if a < 0 then stF (h.1 55) 7 else h.1 55 (ca_n a)
    by_cases q : a < 0
    · rw [if_pos q, s1F_neg _ _ q]
    · rw [if_neg q]
      have := mt (lt0 a).mpr q
      obtain ⟨i, hi, rfl, ei⟩ := n_of (x := a) (b := 6) ⟨by omega, k1.2⟩ (by decide)
      rw [ei, s1F_one _ i (by omega) 7 (Nat.le_refl 7), if_pos (by omega)]

  · skip
    refine g_aload_n (pc := 14) o dX10_status_14 rfl ?_
    refine g_ldc (pc := 15) o dX10_status_15 lc_X10_68 ?_
    refine g_callVi (pc := 17) o (m_finds 0 (by decide) h) mt_X10_finds mv_X10_finds lk_X10_86 rfl rfl rfl (by decide) rfl (Nat.le_of_ble_eq_true rfl) dX10_status_17 ?_
    exact g_iret o ρ dX10_status_20 (Pm.eq (if_neg (fun z => (by rw [d] at c11; exact bI_0.mp c11 z))) (Pm_fnd rfl (kC.rf h) (by decide)))
