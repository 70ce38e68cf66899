/-! ===== SHEETS ===== -/
def shS (σ : Sg) (f5 f6 f7 : Nat → Int32) : Sg := sf (sf (sf σ 5 f5) 6 f6) 7 f7
theorem CR_sh {h h2 : Mem} {σ : Sg} {f5 f6 f7 : Nat → Int32} (C : CR h σ) (e5 : ∀ j, j < 4 → h2.1 35 j = f5 j) (e6 : ∀ j, j < 4 → h2.1 36 j = f6 j) (e7 : ∀ j, j < 160 → h2.1 37 j = f7 j) (e : ∀ k, k ≠ 35 → k ≠ 36 → k ≠ 37 → h2.1 k = h.1 k) : CR h2 (shS σ f5 f6 f7) := by
  obtain ⟨a1, a2, a3, a4, a5, a6, a7, a8, a9, a10, a11⟩ := C
  refine ⟨a1.of (fun k hk => ?_), ?_, ?_, fun q => (a4 q).of (fun k hk => ?_), ?_, ?_, ?_, ?_, e5, e6, e7⟩
  · simp only [inB, Bool.or_eq_true, beq_iff_eq] at hk; exact e k (by omega) (by omega) (by omega)
  · rw [e 29 (by decide) (by decide) (by decide)]; exact a2
  · rw [e 0 (by decide) (by decide) (by decide)]; exact a3
  · simp only [inB, Bool.or_eq_true, beq_iff_eq] at hk; exact e k (by omega) (by omega) (by omega)
  · rw [e 0 (by decide) (by decide) (by decide)]; exact a5
  · rw [e 50 (by decide) (by decide) (by decide)]; exact a6
  · rw [e 30 (by decide) (by decide) (by decide)]; exact a7
  · rw [e 31 (by decide) (by decide) (by decide)]; exact a8
theorem abs_sh {h h2 : Mem} {f5 f6 f7 : Nat → Int32} (e5 : h2.1 67 = f5) (e6 : h2.1 68 = f6) (e7 : h2.1 69 = f7) (e : ∀ k, k ≠ 67 → k ≠ 68 → k ≠ 69 → k ≠ 70 → h2.1 k = h.1 k) : absM h2 = shS (absM h) f5 f6 f7 := by
  refine abs_f _ _ (e 52 (by decide) (by decide) (by decide) (by decide)) (e 55 (by decide) (by decide) (by decide) (by decide)) (e 53 (by decide) (by decide) (by decide) (by decide)) (e 62 (by decide) (by decide) (by decide) (by decide)) (e 66 (by decide) (by decide) (by decide) (by decide)) e5 e6 e7 ?_ (fun k hk => ?_)
  · show (fun i => match i with | 0 => h2.1 51 4 | 1 => h2.1 51 15 | _ => h2.1 51 20) = (fun i => match i with | 0 => h.1 51 4 | 1 => h.1 51 15 | _ => h.1 51 20)
    rw [e 51 (by decide) (by decide) (by decide) (by decide)]
  · obtain ⟨n, rfl⟩ := Nat.exists_eq_add_of_le hk
    rw [show 9 + n = n + 9 by omega]
    rfl
theorem shS_7 (σ : Sg) (f : Nat → Int32) : shS σ (σ 5) (σ 6) f = sf σ 7 f := by
  unfold shS
  rw [sf_id]
  have : sf σ 6 (σ 6) = σ := sf_id σ 6
  rw [this]
theorem CR.b5 {h : Mem} {σ : Sg} (C : CR h σ) (j : Nat) (hj : j < 4) : h.1 35 j = σ 5 j := C.2.2.2.2.2.2.2.2.1 j hj
theorem CR.b6 {h : Mem} {σ : Sg} (C : CR h σ) (j : Nat) (hj : j < 4) : h.1 36 j = σ 6 j := C.2.2.2.2.2.2.2.2.2.1 j hj
theorem CR.b7 {h : Mem} {σ : Sg} (C : CR h σ) (j : Nat) (hj : j < 160) : h.1 37 j = σ 7 j := C.2.2.2.2.2.2.2.2.2.2 j hj
def clr (f : Nat → Int32) (k : Nat) : Nat → (Nat → Int32)
  | 0 => f
  | n + 1 => upd (clr f k n) (k * 40 + n) 0
theorem clr_cg {f g : Nat → Int32} (k : Nat) (e : ∀ j, j < 160 → f j = g j) : ∀ n j, j < 160 → clr f k n j = clr g k n j
  | 0, j, hj => e j hj
  | n + 1, j, hj => by
    show upd (clr f k n) (k * 40 + n) 0 j = upd (clr g k n) (k * 40 + n) 0 j
    unfold upd
    split
    · rfl
    · exact clr_cg k e n j hj
set_option maxRecDepth 100000 in
set_option maxHeartbeats 400000 in
theorem c_isMissing {h : Mem} {σ : Sg} (C : CR h σ) (k : Nat) (hk : k < 4) : Ct yX4_isMissing cX4_isMissing 2 (some .boolean) 0 0 [.ref 34, .int (nI k)] h (Ei (bI (σ 5 k = 0)) h) := by
  refine Ct.of (by decide) (Nat.le_of_ble_eq_true rfl) (fun Γ o ρ => ?_)
  show ca_G Γ 2 _ _ [_, _] _
  refine g_aload_n (pc := 0) o dX4_isMissing_0 rfl ?_
  refine g_getR (pc := 1) o 0 rfl rfl rfl inX4 (by decide) lf_X4_9 dX4_isMissing_1 ?_
  refine g_iload_n (pc := 4) o dX4_isMissing_4 rfl ?_
  refine n_ialdE (pc := 5) o k (rfl) rfl ((by omega)) (by decide) (C.b5 k hk) dX4_isMissing_5 ?_
  refine g_if_ne (pc := 6) o 13 dX4_isMissing_6 (by decide) (fun c6 => ?_) (fun c6 => ?_)
  · skip
    refine g_iconst (pc := 13) o dX4_isMissing_13 0 rfl ?_
    exact g_zret o ρ (by first | rfl | exact bI_b) dX4_isMissing_14 (Ei.mk (bI_f c6) rfl)
  · skip
    refine g_iconst (pc := 9) o dX4_isMissing_9 1 rfl ?_
    refine g_goto (pc := 10) o 14 dX4_isMissing_10 (by decide) ?_
    exact g_zret o ρ (by first | rfl | exact bI_b) dX4_isMissing_14 (Ei.mk (bI_t c6) rfl)
set_option maxRecDepth 100000 in
set_option maxHeartbeats 400000 in
theorem c_bitsOf {h : Mem} {σ : Sg} (C : CR h σ) (k : Nat) (hk : k < 4) : Ct yX4_bitsOf cX4_bitsOf 2 (some .int) 0 0 [.ref 34, .int (nI k)] h (Ei (σ 5 k) h) := by
  refine Ct.of (by decide) (Nat.le_of_ble_eq_true rfl) (fun Γ o ρ => ?_)
  show ca_G Γ 2 _ _ [_, _] _
  refine g_aload_n (pc := 0) o dX4_bitsOf_0 rfl ?_
  refine g_getR (pc := 1) o 0 rfl rfl rfl inX4 (by decide) lf_X4_9 dX4_bitsOf_1 ?_
  refine g_iload_n (pc := 4) o dX4_bitsOf_4 rfl ?_
  refine n_ialdE (pc := 5) o k (rfl) rfl ((by omega)) (by decide) (C.b5 k hk) dX4_bitsOf_5 ?_
  exact g_iret o ρ dX4_bitsOf_6 (Ei.mk rfl rfl)
set_option maxRecDepth 100000 in
set_option maxHeartbeats 400000 in
theorem c_shsize {h : Mem} {v : Int32} (k : Nat) (hk : k < 4) (e : h.1 36 k = v) : Ct yX4_size cX4_size 2 (some .int) 0 0 [.ref 34, .int (nI k)] h (Ei v h) := by
  refine Ct.of (by decide) (Nat.le_of_ble_eq_true rfl) (fun Γ o ρ => ?_)
  show ca_G Γ 2 _ _ [_, _] _
  refine g_aload_n (pc := 0) o dX4_size_0 rfl ?_
  refine g_getR (pc := 1) o 1 rfl rfl rfl inX4 (by decide) lf_X4_13 dX4_size_1 ?_
  refine g_iload_n (pc := 4) o dX4_size_4 rfl ?_
  refine n_ialdE (pc := 5) o k (rfl) rfl ((by omega)) (by decide) (e) dX4_size_5 ?_
  exact g_iret o ρ dX4_size_6 (Ei.mk rfl rfl)
set_option maxRecDepth 100000 in
set_option maxHeartbeats 400000 in
theorem c_shget {h : Mem} {σ : Sg} (C : CR h σ) (k i : Nat) (hk : k < 4) (hi : i < 40) : Ct yX4_get cX4_get 3 (some .int) 0 0 [.ref 34, .int (nI k), .int (nI i)] h (Ei (σ 7 (k * 40 + i)) h) := by
  refine Ct.of (by decide) (Nat.le_of_ble_eq_true rfl) (fun Γ o ρ => ?_)
  show ca_G Γ 3 _ _ [_, _, _] _
  refine g_aload_n (pc := 0) o dX4_get_0 rfl ?_
  refine g_getR (pc := 1) o 2 rfl rfl rfl inX4 (by decide) lf_X4_16 dX4_get_1 ?_
  refine g_iload_n (pc := 4) o dX4_get_4 rfl ?_
  refine g_bipush (pc := 5) o dX4_get_5 40 rfl ?_
  refine g_imul (pc := 7) o dX4_get_7 ?_
  refine g_iload_n (pc := 8) o dX4_get_8 rfl ?_
  refine g_iadd (pc := 9) o dX4_get_9 ?_
  refine n_ialdE (pc := 10) o (k * 40 + i) (ix k 40 i) rfl ((by omega)) (by decide) (C.b7 (k * 40 + i) (by omega)) dX4_get_10 ?_
  exact g_iret o ρ dX4_get_11 (Ei.mk rfl rfl)
def narF (b v : Int32) : Int32 := if b = 8 then v.toInt8.toInt32 else if b = 16 then v.toInt16.toInt32 else v
set_option maxRecDepth 100000 in
set_option maxHeartbeats 400000 in
theorem c_shset {h : Mem} {σ : Sg} (C : CR h σ) (k i : Nat) (hk : k < 4) (hi : i < 40) (v : Int32) : Ct yX4_set cX4_set 5 none 0 0 [.ref 34, .int (nI k), .int (nI i), .int v] h (Ev (mw h 37 (k * 40 + i) (narF (σ 5 k) v))) := by
  refine Ct.of (by decide) (Nat.le_of_ble_eq_true rfl) (fun Γ o ρ => ?_)
  show ca_G Γ 5 _ _ [_, _, _, _, _] _
  refine g_iload_n (pc := 0) o dX4_set_0 rfl ?_
  refine g_istore (pc := 1) o dX4_set_1 (by decide) ?_
  show ca_G Γ 5 _ _ [_, _, _, _, _] _
  refine g_aload_n (pc := 3) o dX4_set_3 rfl ?_
  refine g_getR (pc := 4) o 0 rfl rfl rfl inX4 (by decide) lf_X4_9 dX4_set_4 ?_
  refine g_iload_n (pc := 7) o dX4_set_7 rfl ?_
  refine n_ialdE (pc := 8) o k (rfl) rfl ((by omega)) (by decide) (C.b5 k hk) dX4_set_8 ?_
  refine g_bipush (pc := 9) o dX4_set_9 8 rfl ?_
  refine g_ic_ne (pc := 11) o 21 dX4_set_11 (by decide) (fun c11 => ?_) (fun c11 => ?_)
  · skip
    refine g_aload_n (pc := 21) o dX4_set_21 rfl ?_
    refine g_getR (pc := 22) o 0 rfl rfl rfl inX4 (by decide) lf_X4_9 dX4_set_22 ?_
    refine g_iload_n (pc := 25) o dX4_set_25 rfl ?_
    refine n_ialdE (pc := 26) o k (rfl) rfl ((by omega)) (by decide) (C.b5 k hk) dX4_set_26 ?_
    refine g_bipush (pc := 27) o dX4_set_27 16 rfl ?_
    refine g_ic_ne (pc := 29) o 36 dX4_set_29 (by decide) (fun c29 => ?_) (fun c29 => ?_)
    · skip
      refine g_aload_n (pc := 36) o dX4_set_36 rfl ?_
      refine g_getR (pc := 37) o 2 rfl rfl rfl inX4 (by decide) lf_X4_16 dX4_set_37 ?_
      refine g_iload_n (pc := 40) o dX4_set_40 rfl ?_
      refine g_bipush (pc := 41) o dX4_set_41 40 rfl ?_
      refine g_imul (pc := 43) o dX4_set_43 ?_
      refine g_iload_n (pc := 44) o dX4_set_44 rfl ?_
      refine g_iadd (pc := 45) o dX4_set_45 ?_
      refine g_iload (pc := 46) o dX4_set_46 rfl ?_
      refine n_iast (pc := 48) o (k * 40 + i) (ix k 40 i) rfl ((by omega)) (by decide) dX4_set_48 ?_
      exact g_vret o ρ dX4_set_49 ⟨rfl, by unfold narF; rw [if_neg c11, if_neg c29]⟩
    · skip
      refine g_iload_n (pc := 32) o dX4_set_32 rfl ?_
      refine g_i2s (pc := 33) o dX4_set_33 ?_
      refine g_istore (pc := 34) o dX4_set_34 (by decide) ?_
      show ca_G Γ 5 _ _ [_, _, _, _, _] _
      refine g_aload_n (pc := 36) o dX4_set_36 rfl ?_
      refine g_getR (pc := 37) o 2 rfl rfl rfl inX4 (by decide) lf_X4_16 dX4_set_37 ?_
      refine g_iload_n (pc := 40) o dX4_set_40 rfl ?_
      refine g_bipush (pc := 41) o dX4_set_41 40 rfl ?_
      refine g_imul (pc := 43) o dX4_set_43 ?_
      refine g_iload_n (pc := 44) o dX4_set_44 rfl ?_
      refine g_iadd (pc := 45) o dX4_set_45 ?_
      refine g_iload (pc := 46) o dX4_set_46 rfl ?_
      refine n_iast (pc := 48) o (k * 40 + i) (ix k 40 i) rfl ((by omega)) (by decide) dX4_set_48 ?_
      exact g_vret o ρ dX4_set_49 ⟨rfl, by unfold narF; rw [if_neg c11, if_pos c29]⟩
  · skip
    refine g_iload_n (pc := 14) o dX4_set_14 rfl ?_
    refine g_i2b (pc := 15) o dX4_set_15 ?_
    refine g_istore (pc := 16) o dX4_set_16 (by decide) ?_
    show ca_G Γ 5 _ _ [_, _, _, _, _] _
    refine g_goto (pc := 18) o 36 dX4_set_18 (by decide) ?_
    refine g_aload_n (pc := 36) o dX4_set_36 rfl ?_
    refine g_getR (pc := 37) o 2 rfl rfl rfl inX4 (by decide) lf_X4_16 dX4_set_37 ?_
    refine g_iload_n (pc := 40) o dX4_set_40 rfl ?_
    refine g_bipush (pc := 41) o dX4_set_41 40 rfl ?_
    refine g_imul (pc := 43) o dX4_set_43 ?_
    refine g_iload_n (pc := 44) o dX4_set_44 rfl ?_
    refine g_iadd (pc := 45) o dX4_set_45 ?_
    refine g_iload (pc := 46) o dX4_set_46 rfl ?_
    refine n_iast (pc := 48) o (k * 40 + i) (ix k 40 i) rfl ((by omega)) (by decide) dX4_set_48 ?_
    exact g_vret o ρ dX4_set_49 ⟨rfl, by unfold narF; rw [if_pos c11]⟩
set_option maxRecDepth 100000 in
set_option maxHeartbeats 400000 in
theorem m_narrowed (b v : Int32) (h : Mem) : Ct yX10_narrowed cX10_narrowed 2 (some .int) 0 0 [.int b, .int v] h (Ei (narF b v) h) := by
  refine Ct.of (by decide) (Nat.le_of_ble_eq_true rfl) (fun Γ o ρ => ?_)
  show ca_G Γ 2 _ _ [_, _] _
  refine g_iload_n (pc := 0) o dX10_narrowed_0 rfl ?_
  refine g_bipush (pc := 1) o dX10_narrowed_1 8 rfl ?_
  refine g_ic_ne (pc := 3) o 11 dX10_narrowed_3 (by decide) (fun c3 => ?_) (fun c3 => ?_)
  · skip
    refine g_iload_n (pc := 11) o dX10_narrowed_11 rfl ?_
    refine g_bipush (pc := 12) o dX10_narrowed_12 16 rfl ?_
    refine g_ic_ne (pc := 14) o 22 dX10_narrowed_14 (by decide) (fun c14 => ?_) (fun c14 => ?_)
    · skip
      refine g_iload_n (pc := 22) o dX10_narrowed_22 rfl ?_
      exact g_iret o ρ dX10_narrowed_23 (Ei.mk (by unfold narF; rw [if_neg c3, if_neg c14]) rfl)
    · skip
      refine g_iload_n (pc := 17) o dX10_narrowed_17 rfl ?_
      refine g_i2s (pc := 18) o dX10_narrowed_18 ?_
      refine g_goto (pc := 19) o 23 dX10_narrowed_19 (by decide) ?_
      exact g_iret o ρ dX10_narrowed_23 (Ei.mk (by unfold narF; rw [if_neg c3, if_pos c14]) rfl)
  · skip
    refine g_iload_n (pc := 6) o dX10_narrowed_6 rfl ?_
    refine g_i2b (pc := 7) o dX10_narrowed_7 ?_
    refine g_goto (pc := 8) o 23 dX10_narrowed_8 (by decide) ?_
    exact g_iret o ρ dX10_narrowed_23 (Ei.mk (by unfold narF; rw [if_pos c3]) rfl)
set_option maxRecDepth 100000 in
theorem lp_lay {Γ : Fr} (o : ca_O Γ cX4_lay 5 RX4 0 0) {Pr : Option Value → Mem → Prop} (ρ : ca_R Γ none Pr) {h0 : Mem} (k : Nat) (hk : k < 4) (b n : Int32) (hp : ∀ h2 : Mem, h2.1 37 = clr (h0.1 37) k 40 → (∀ c, c ≠ 37 → h2.1 c = h0.1 c) → Pr none h2) : ∀ i, i ≤ 40 → ∀ (xi : Int32) (h : Mem), xi = nI i → h.1 37 = clr (h0.1 37) k i → (∀ c, c ≠ 37 → h.1 c = h0.1 c) → ca_G Γ 5 h 25 [some (.ref 34), some (.int (nI k)), some (.int b), some (.int n), some (.int xi)] [] := by
  refine downI 40 (fun i hi ih => ?_)
  rintro xi h rfl e1 e2
  refine g_iload (pc := 25) o dX4_lay_25 rfl ?_
  refine g_bipush (pc := 27) o dX4_lay_27 40 rfl ?_
  refine g_ic_ge (pc := 29) o 51 dX4_lay_29 (by decide) (fun c29 => ?_) (fun c29 => ?_)
  · skip
    have e : i = 40 := ge8 (n := 40) (by omega) (by omega) c29
    subst e
    exact g_vret o ρ dX4_lay_51 (hp h e1 e2)
  · skip
    have e : i < 40 := lt8 (n := 40) (by omega) (by omega) c29
    refine g_aload_n (pc := 32) o dX4_lay_32 rfl ?_
    refine g_getR (pc := 33) o 2 rfl rfl rfl inX4 (by decide) lf_X4_16 dX4_lay_33 ?_
    refine g_iload_n (pc := 36) o dX4_lay_36 rfl ?_
    refine g_bipush (pc := 37) o dX4_lay_37 40 rfl ?_
    refine g_imul (pc := 39) o dX4_lay_39 ?_
    refine g_iload (pc := 40) o dX4_lay_40 rfl ?_
    refine g_iadd (pc := 42) o dX4_lay_42 ?_
    refine g_iconst (pc := 43) o dX4_lay_43 0 rfl ?_
    refine n_iast (pc := 44) o (k * 40 + i) (ix k 40 i) rfl ((by omega)) (by decide) dX4_lay_44 ?_
    refine g_iinc (pc := 45) o dX4_lay_45 rfl 1 rfl (by decide) ?_
    show ca_G Γ 5 _ _ [_, _, _, _, _] _
    refine g_goto (pc := 48) o 25 dX4_lay_48 (by decide) ?_
    exact ih e _ _ (nI_1 i) (by rw [mw_same, e1]; rfl) (fun c hc => (mw_ne _ _ _ hc).trans (e2 c hc))
def szF (b n : Int32) : Int32 := if b = 0 then 0 else n
set_option maxRecDepth 100000 in
set_option maxHeartbeats 400000 in
theorem c_lay {h : Mem} (k : Nat) (hk : k < 4) (b n : Int32) : Ct yX4_lay cX4_lay 5 none 0 0 [.ref 34, .int (nI k), .int b, .int n] h (Qv (fun h2 => h2.1 35 = upd (h.1 35) k b ∧ h2.1 36 = upd (h.1 36) k (szF b n) ∧ h2.1 37 = clr (h.1 37) k 40 ∧ ∀ c, c ≠ 35 → c ≠ 36 → c ≠ 37 → h2.1 c = h.1 c)) := by
  refine Ct.of (by decide) (Nat.le_of_ble_eq_true rfl) (fun Γ o ρ => ?_)
  show ca_G Γ 5 _ _ [_, _, _, _, _] _
  have fin : ∀ v, v = szF b n → ∀ h2 : Mem, h2.1 37 = clr ((mw (mw h 35 k b) 36 k v).1 37) k 40 → (∀ c, c ≠ 37 → h2.1 c = (mw (mw h 35 k b) 36 k v).1 c) → Qv (fun h2 => h2.1 35 = upd (h.1 35) k b ∧ h2.1 36 = upd (h.1 36) k (szF b n) ∧ h2.1 37 = clr (h.1 37) k 40 ∧ ∀ c, c ≠ 35 → c ≠ 36 → c ≠ 37 → h2.1 c = h.1 c) none h2 := by
    rintro v rfl h2 g1 g2
    refine Qv.mk ⟨(g2 35 (by decide)).trans rfl, (g2 36 (by decide)).trans rfl, g1, fun c c1 c2 c3 => ?_⟩
    rw [g2 c c3, mw_ne _ _ _ c2, mw_ne _ _ _ c1]
  refine g_aload_n (pc := 0) o dX4_lay_0 rfl ?_
  refine g_getR (pc := 1) o 0 rfl rfl rfl inX4 (by decide) lf_X4_9 dX4_lay_1 ?_
  refine g_iload_n (pc := 4) o dX4_lay_4 rfl ?_
  refine g_iload_n (pc := 5) o dX4_lay_5 rfl ?_
  refine n_iast (pc := 6) o k (rfl) rfl ((by omega)) (by decide) dX4_lay_6 ?_
  refine g_aload_n (pc := 7) o dX4_lay_7 rfl ?_
  refine g_getR (pc := 8) o 1 rfl rfl rfl inX4 (by decide) lf_X4_13 dX4_lay_8 ?_
  refine g_iload_n (pc := 11) o dX4_lay_11 rfl ?_
  refine g_iload_n (pc := 12) o dX4_lay_12 rfl ?_
  refine g_if_ne (pc := 13) o 20 dX4_lay_13 (by decide) (fun c13 => ?_) (fun c13 => ?_)
  · skip
    refine g_iload_n (pc := 20) o dX4_lay_20 rfl ?_
    refine n_iast (pc := 21) o k (rfl) rfl ((by omega)) (by decide) dX4_lay_21 ?_
    refine g_iconst (pc := 22) o dX4_lay_22 0 rfl ?_
    refine g_istore (pc := 23) o dX4_lay_23 (by decide) ?_
    show ca_G Γ 5 _ _ [_, _, _, _, _] _
    exact lp_lay o ρ k hk b n (fin _ (by unfold szF; rw [if_neg c13])) 0 (by omega) 0 _ rfl rfl (fun _ _ => rfl)
  · skip
    refine g_iconst (pc := 16) o dX4_lay_16 0 rfl ?_
    refine g_goto (pc := 17) o 21 dX4_lay_17 (by decide) ?_
    refine n_iast (pc := 21) o k (rfl) rfl ((by omega)) (by decide) dX4_lay_21 ?_
    refine g_iconst (pc := 22) o dX4_lay_22 0 rfl ?_
    refine g_istore (pc := 23) o dX4_lay_23 (by decide) ?_
    show ca_G Γ 5 _ _ [_, _, _, _, _] _
    exact lp_lay o ρ k hk b n (fin _ (by unfold szF; rw [if_pos c13])) 0 (by omega) 0 _ rfl rfl (fun _ _ => rfl)
abbrev bitF (b : Int32) : Prop := b = 0 ∨ b = 8 ∨ b = 16 ∨ b = 32
def op_sheet (a b n : Int32) (σ : Sg) : Int32 × Sg := if rng a 0 3 ∧ bitF b then (if 0 ≤ n then (if n ≤ 40 then (szF b n, shS σ (upd (σ 5) (ca_n a) b) (upd (σ 6) (ca_n a) (szF b n)) (clr (σ 7) (ca_n a) 40)) else fnd σ 0) else fnd σ 6) else fnd σ 0
theorem upd_cg {f g : Nat → Int32} {N k : Nat} {v : Int32} (e : ∀ j, j < N → f j = g j) : ∀ j, j < N → upd f k v j = upd g k v j := fun j hj => by
  unfold upd
  split
  · rfl
  · exact e j hj
set_option maxRecDepth 100000 in
set_option maxHeartbeats 400000 in
theorem co_sheet {h : Mem} {σ : Sg} (C : CR h σ) (a b n : Int32) : Ct yX9_sheet cX9_sheet 4 (some .int) 1 24 [.ref 0, .int a, .int b, .int n] h (Po h (op_sheet a b n σ)) := by
  refine Ct.of (by decide) (Nat.le_of_ble_eq_true rfl) (fun Γ o ρ => ?_)
  show ca_G Γ 4 _ _ [_, _, _, _] _
  refine g_iload_n (pc := 0) o dX9_sheet_0 rfl ?_
  refine g_callSi (pc := 1) o (c_isSheet a h) mt_X4_isSheet ms_X4_isSheet lk_X9_300 rfl (by decide) rfl (Nat.le_of_ble_eq_true rfl) dX9_sheet_1 ?_
  refine g_if_eq (pc := 4) o 14 dX9_sheet_4 (by decide) (fun c4 => ?_) (fun c4 => ?_)
  · skip
    refine g_aload_n (pc := 14) o dX9_sheet_14 rfl ?_
    refine g_iconst (pc := 15) o dX9_sheet_15 0 rfl ?_
    refine g_callVi (pc := 16) o (c_finding 0 (by decide) h) mt_X9_finding mv_X9_finding lk_X9_58 rfl rfl rfl (by decide) rfl (Nat.le_of_ble_eq_true rfl) dX9_sheet_16 ?_
    exact g_iret o ρ dX9_sheet_19 (Po.eq (if_neg (fun z => bI_0.mp c4 z.1)) (Po_fnd C (by decide)))
  · skip
    refine g_iload_n (pc := 7) o dX9_sheet_7 rfl ?_
    refine g_callSi (pc := 8) o (c_areBits b h) mt_X4_areBits ms_X4_areBits lk_X9_303 rfl (by decide) rfl (Nat.le_of_ble_eq_true rfl) dX9_sheet_8 ?_
    refine g_if_ne (pc := 11) o 20 dX9_sheet_11 (by decide) (fun c11 => ?_) (fun c11 => ?_)
    · skip
      have eq : op_sheet a b n σ = if 0 ≤ n then (if n ≤ 40 then (szF b n, shS σ (upd (σ 5) (ca_n a) b) (upd (σ 6) (ca_n a) (szF b n)) (clr (σ 7) (ca_n a) 40)) else fnd σ 0) else fnd σ 6 := if_pos ⟨bI_n0.mp c4, bI_n0.mp c11⟩
      rw [eq] at ρ
      obtain ⟨k, hk, rfl, ek⟩ := n_of (x := a) (b := 3) (bI_n0.mp c4) (by decide)
      rw [ek] at ρ
      refine g_iload_n (pc := 20) o dX9_sheet_20 rfl ?_
      refine g_if_ge (pc := 21) o 31 dX9_sheet_21 (by decide) (fun c21 => ?_) (fun c21 => ?_)
      · skip
        rw [if_pos c21] at ρ
        refine g_iload_n (pc := 31) o dX9_sheet_31 rfl ?_
        refine g_bipush (pc := 32) o dX9_sheet_32 40 rfl ?_
        refine g_ic_le (pc := 34) o 43 dX9_sheet_34 (by decide) (fun c34 => ?_) (fun c34 => ?_)
        · skip
          rw [if_pos c34] at ρ
          refine g_aload_n (pc := 43) o dX9_sheet_43 rfl ?_
          refine g_getR (pc := 44) o 5 rfl rfl rfl inX9 (by decide) lf_X9_33 dX9_sheet_44 ?_
          refine g_iload_n (pc := 47) o dX9_sheet_47 rfl ?_
          refine g_iload_n (pc := 48) o dX9_sheet_48 rfl ?_
          refine g_iload_n (pc := 49) o dX9_sheet_49 rfl ?_
          refine g_callVQv (pc := 50) o (c_lay k (by omega) b n) mt_X4_lay mv_X4_lay lk_X9_306 rfl rfl rfl (by decide) rfl (Nat.le_of_ble_eq_true rfl) dX9_sheet_50 ?_
          rintro h2 ⟨e5, e6, e7, eo⟩
          refine g_aload_n (pc := 53) o dX9_sheet_53 rfl ?_
          refine g_getR (pc := 54) o 5 rfl rfl rfl inX9 (by decide) lf_X9_33 dX9_sheet_54 ?_
          refine g_iload_n (pc := 57) o dX9_sheet_57 rfl ?_
          refine g_callVi (pc := 58) o (c_shsize (v := szF b n) k (by omega) (by rw [e6]; exact pk_us)) mt_X4_size mv_X4_size lk_X9_309 rfl rfl rfl (by decide) rfl (Nat.le_of_ble_eq_true rfl) dX9_sheet_58 ?_
          exact g_iret o ρ dX9_sheet_61 (Po.mk rfl (CR_sh C (by rw [e5]; exact upd_cg C.b5) (by rw [e6]; exact upd_cg C.b6) (by rw [e7]; exact clr_cg k C.b7 40) eo) (fun c hc => eo c (by omega) (by omega) (by omega)))
        · skip
          refine g_aload_n (pc := 37) o dX9_sheet_37 rfl ?_
          refine g_iconst (pc := 38) o dX9_sheet_38 0 rfl ?_
          refine g_callVi (pc := 39) o (c_finding 0 (by decide) h) mt_X9_finding mv_X9_finding lk_X9_58 rfl rfl rfl (by decide) rfl (Nat.le_of_ble_eq_true rfl) dX9_sheet_39 ?_
          exact g_iret o ρ dX9_sheet_42 (Po.eq (if_neg (fun z => c34 z)) (Po_fnd C (by decide)))
      · skip
        refine g_aload_n (pc := 24) o dX9_sheet_24 rfl ?_
        refine g_bipush (pc := 25) o dX9_sheet_25 6 rfl ?_
        refine g_callVi (pc := 27) o (c_finding 6 (by decide) h) mt_X9_finding mv_X9_finding lk_X9_58 rfl rfl rfl (by decide) rfl (Nat.le_of_ble_eq_true rfl) dX9_sheet_27 ?_
        exact g_iret o ρ dX9_sheet_30 (Po.eq (if_neg (fun z => c21 z)) (Po_fnd C (by decide)))
    · skip
      refine g_aload_n (pc := 14) o dX9_sheet_14 rfl ?_
      refine g_iconst (pc := 15) o dX9_sheet_15 0 rfl ?_
      refine g_callVi (pc := 16) o (c_finding 0 (by decide) h) mt_X9_finding mv_X9_finding lk_X9_58 rfl rfl rfl (by decide) rfl (Nat.le_of_ble_eq_true rfl) dX9_sheet_16 ?_
      exact g_iret o ρ dX9_sheet_19 (Po.eq (if_neg (fun z => bI_0.mp c11 z.2)) (Po_fnd C (by decide)))
set_option maxRecDepth 100000 in
theorem lp_msheet {Γ : Fr} (o : ca_O Γ cX10_sheet 5 RX10 2 45) {Pr : Option Value → Mem → Prop} (ρ : ca_R Γ (some .int) Pr) {h0 : Mem} (k : Nat) (hk : k < 4) (b n : Int32) (hp : ∀ h2 : Mem, h2.1 69 = clr (h0.1 69) k 40 → (∀ c, c ≠ 69 → h2.1 c = h0.1 c) → Pr (some (.int (h2.1 68 k))) h2) : ∀ i, i ≤ 40 → ∀ (xi : Int32) (h : Mem), xi = nI i → h.1 69 = clr (h0.1 69) k i → (∀ c, c ≠ 69 → h.1 c = h0.1 c) → ca_G Γ 5 h 86 [some (.ref 51), some (.int (nI k)), some (.int b), some (.int n), some (.int xi)] [] := by
  refine downI 40 (fun i hi ih => ?_)
  rintro xi h rfl e1 e2
  refine g_iload (pc := 86) o dX10_sheet_86 rfl ?_
  refine g_bipush (pc := 88) o dX10_sheet_88 40 rfl ?_
  refine g_ic_ge (pc := 90) o 112 dX10_sheet_90 (by decide) (fun c90 => ?_) (fun c90 => ?_)
  · skip
    have e : i = 40 := ge8 (n := 40) (by omega) (by omega) c90
    subst e
    refine g_aload_n (pc := 112) o dX10_sheet_112 rfl ?_
    refine g_getR (pc := 113) o 26 rfl rfl rfl inX10 (by decide) lf_X10_59 dX10_sheet_113 ?_
    refine g_iload_n (pc := 116) o dX10_sheet_116 rfl ?_
    refine n_iald (pc := 117) o k (rfl) rfl ((by omega)) (by decide) dX10_sheet_117 ?_
    exact g_iret o ρ dX10_sheet_118 (hp h e1 e2)
  · skip
    have e : i < 40 := lt8 (n := 40) (by omega) (by omega) c90
    refine g_aload_n (pc := 93) o dX10_sheet_93 rfl ?_
    refine g_getR (pc := 94) o 27 rfl rfl rfl inX10 (by decide) lf_X10_62 dX10_sheet_94 ?_
    refine g_bipush (pc := 97) o dX10_sheet_97 40 rfl ?_
    refine g_iload_n (pc := 99) o dX10_sheet_99 rfl ?_
    refine g_imul (pc := 100) o dX10_sheet_100 ?_
    refine g_iload (pc := 101) o dX10_sheet_101 rfl ?_
    refine g_iadd (pc := 103) o dX10_sheet_103 ?_
    refine g_iconst (pc := 104) o dX10_sheet_104 0 rfl ?_
    refine n_iast (pc := 105) o (k * 40 + i) ((ix2 k 40 i).trans (by rw [Nat.mul_comm])) rfl ((by omega)) (by decide) dX10_sheet_105 ?_
    refine g_iinc (pc := 106) o dX10_sheet_106 rfl 1 rfl (by decide) ?_
    show ca_G Γ 5 _ _ [_, _, _, _, _] _
    refine g_goto (pc := 109) o 86 dX10_sheet_109 (by decide) ?_
    exact ih e _ _ (nI_1 i) (by rw [mw_same, e1]; rfl) (fun c hc => (mw_ne _ _ _ hc).trans (e2 c hc))
set_option maxRecDepth 100000 in
set_option maxHeartbeats 400000 in
theorem mo_sheet {h : Mem} (a b n : Int32) : Ct yX10_sheet cX10_sheet 5 (some .int) 2 45 [.ref 51, .int a, .int b, .int n] h (Pm h (op_sheet a b n (absM h))) := by
  refine Ct.of (by decide) (Nat.le_of_ble_eq_true rfl) (fun Γ o ρ => ?_)
  show ca_G Γ 5 _ _ [_, _, _, _, _] _
  refine g_iload_n (pc := 0) o dX10_sheet_0 rfl ?_
  refine g_callSi (pc := 1) o (m_isOne a h) mt_X10_isOne ms_X10_isOne lk_X10_311 rfl (by decide) rfl (Nat.le_of_ble_eq_true rfl) dX10_sheet_1 ?_
  refine g_if_eq (pc := 4) o 29 dX10_sheet_4 (by decide) (fun c4 => ?_) (fun c4 => ?_)
  · skip
    refine g_aload_n (pc := 29) o dX10_sheet_29 rfl ?_
    refine g_ldc (pc := 30) o dX10_sheet_30 lc_X10_68 ?_
    refine g_callVi (pc := 32) o (m_finds 0 (by decide) h) mt_X10_finds mv_X10_finds lk_X10_86 rfl rfl rfl (by decide) rfl (Nat.le_of_ble_eq_true rfl) dX10_sheet_32 ?_
    exact g_iret o ρ dX10_sheet_35 (Pm.eq (if_neg (fun z => bI_0.mp c4 z.1)) (Pm_fnd rfl (kC.rf h) (by decide)))
  · skip
    have body : bitF b → ca_G Γ 5 h 36 [some (.ref 51), some (.int a), some (.int b), some (.int n), none] [] := by
      intro hb
      have eq : op_sheet a b n (absM h) = if 0 ≤ n then (if n ≤ 40 then (szF b n, shS (absM h) (upd (h.1 67) (ca_n a) b) (upd (h.1 68) (ca_n a) (szF b n)) (clr (h.1 69) (ca_n a) 40)) else fnd (absM h) 0) else fnd (absM h) 6 := if_pos ⟨bI_n0.mp c4, hb⟩
      rw [eq] at ρ
      obtain ⟨k, hk, rfl, ek⟩ := n_of (x := a) (b := 3) (bI_n0.mp c4) (by decide)
      rw [ek] at ρ
      refine g_iload_n (pc := 36) o dX10_sheet_36 rfl ?_
      refine g_if_ge (pc := 37) o 48 dX10_sheet_37 (by decide) (fun c37 => ?_) (fun c37 => ?_)
      · skip
        rw [if_pos c37] at ρ
        refine g_iload_n (pc := 48) o dX10_sheet_48 rfl ?_
        refine g_bipush (pc := 49) o dX10_sheet_49 40 rfl ?_
        refine g_ic_le (pc := 51) o 61 dX10_sheet_51 (by decide) (fun c51 => ?_) (fun c51 => ?_)
        · skip
          rw [if_pos c51] at ρ
          have fin : ∀ v, v = szF b n → ∀ h2 : Mem, h2.1 69 = clr ((mw (mw h 67 k b) 68 k v).1 69) k 40 → (∀ c, c ≠ 69 → h2.1 c = (mw (mw h 67 k b) 68 k v).1 c) → Pm h (szF b n, shS (absM h) (upd (h.1 67) k b) (upd (h.1 68) k (szF b n)) (clr (h.1 69) k 40)) (some (.int (h2.1 68 k))) h2 := by
            rintro v rfl h2 g1 g2
            have e68 : h2.1 68 = upd (h.1 68) k (szF b n) := (g2 68 (by decide)).trans rfl
            refine Pm.mk (by rw [e68]; exact pk_us) (abs_sh ((g2 67 (by decide)).trans rfl) e68 g1 (fun c c1 c2 c3 _ => ?_)) (fun c hc => ?_)
            · rw [g2 c c3, mw_ne _ _ _ c2, mw_ne _ _ _ c1]
            · rw [g2 c (by omega), mw_ne _ _ _ (by omega), mw_ne _ _ _ (by omega)]
          refine g_aload_n (pc := 61) o dX10_sheet_61 rfl ?_
          refine g_getR (pc := 62) o 25 rfl rfl rfl inX10 (by decide) lf_X10_56 dX10_sheet_62 ?_
          refine g_iload_n (pc := 65) o dX10_sheet_65 rfl ?_
          refine g_iload_n (pc := 66) o dX10_sheet_66 rfl ?_
          refine n_iast (pc := 67) o k (rfl) rfl ((by omega)) (by decide) dX10_sheet_67 ?_
          refine g_aload_n (pc := 68) o dX10_sheet_68 rfl ?_
          refine g_getR (pc := 69) o 26 rfl rfl rfl inX10 (by decide) lf_X10_59 dX10_sheet_69 ?_
          refine g_iload_n (pc := 72) o dX10_sheet_72 rfl ?_
          refine g_iload_n (pc := 73) o dX10_sheet_73 rfl ?_
          refine g_if_ne (pc := 74) o 81 dX10_sheet_74 (by decide) (fun c74 => ?_) (fun c74 => ?_)
          · skip
            refine g_iload_n (pc := 81) o dX10_sheet_81 rfl ?_
            refine n_iast (pc := 82) o k (rfl) rfl ((by omega)) (by decide) dX10_sheet_82 ?_
            refine g_iconst (pc := 83) o dX10_sheet_83 0 rfl ?_
            refine g_istore (pc := 84) o dX10_sheet_84 (by decide) ?_
            show ca_G Γ 5 _ _ [_, _, _, _, _] _
            exact lp_msheet o ρ k (by omega) b n (fin _ (by unfold szF; rw [if_neg c74])) 0 (by omega) 0 _ rfl rfl (fun _ _ => rfl)
          · skip
            refine g_iconst (pc := 77) o dX10_sheet_77 0 rfl ?_
            refine g_goto (pc := 78) o 82 dX10_sheet_78 (by decide) ?_
            refine n_iast (pc := 82) o k (rfl) rfl ((by omega)) (by decide) dX10_sheet_82 ?_
            refine g_iconst (pc := 83) o dX10_sheet_83 0 rfl ?_
            refine g_istore (pc := 84) o dX10_sheet_84 (by decide) ?_
            show ca_G Γ 5 _ _ [_, _, _, _, _] _
            exact lp_msheet o ρ k (by omega) b n (fin _ (by unfold szF; rw [if_pos c74])) 0 (by omega) 0 _ rfl rfl (fun _ _ => rfl)
        · skip
          refine g_aload_n (pc := 54) o dX10_sheet_54 rfl ?_
          refine g_ldc (pc := 55) o dX10_sheet_55 lc_X10_68 ?_
          refine g_callVi (pc := 57) o (m_finds 0 (by decide) h) mt_X10_finds mv_X10_finds lk_X10_86 rfl rfl rfl (by decide) rfl (Nat.le_of_ble_eq_true rfl) dX10_sheet_57 ?_
          exact g_iret o ρ dX10_sheet_60 (Pm.eq (if_neg (fun z => c51 z)) (Pm_fnd rfl (kC.rf h) (by decide)))
      · skip
        refine g_aload_n (pc := 40) o dX10_sheet_40 rfl ?_
        refine g_ldcw (pc := 41) o dX10_sheet_41 lc_X10_314 ?_
        refine g_callVi (pc := 44) o (m_finds 6 (by decide) h) mt_X10_finds mv_X10_finds lk_X10_86 rfl rfl rfl (by decide) rfl (Nat.le_of_ble_eq_true rfl) dX10_sheet_44 ?_
        exact g_iret o ρ dX10_sheet_47 (Pm.eq (if_neg (fun z => c37 z)) (Pm_fnd rfl (kC.rf h) (by decide)))
    refine g_iload_n (pc := 7) o dX10_sheet_7 rfl ?_
    refine g_if_eq (pc := 8) o 36 dX10_sheet_8 (by decide) (fun c8 => ?_) (fun c8 => ?_)
    · skip
      exact body (Or.inl c8)
    · skip
      refine g_iload_n (pc := 11) o dX10_sheet_11 rfl ?_
      refine g_bipush (pc := 12) o dX10_sheet_12 8 rfl ?_
      refine g_ic_eq (pc := 14) o 36 dX10_sheet_14 (by decide) (fun c14 => ?_) (fun c14 => ?_)
      · skip
        exact body (Or.inr (Or.inl c14))
      · skip
        refine g_iload_n (pc := 17) o dX10_sheet_17 rfl ?_
        refine g_bipush (pc := 18) o dX10_sheet_18 16 rfl ?_
        refine g_ic_eq (pc := 20) o 36 dX10_sheet_20 (by decide) (fun c20 => ?_) (fun c20 => ?_)
        · skip
          exact body (Or.inr (Or.inr (Or.inl c20)))
        · skip
          refine g_iload_n (pc := 23) o dX10_sheet_23 rfl ?_
          refine g_bipush (pc := 24) o dX10_sheet_24 32 rfl ?_
          refine g_ic_eq (pc := 26) o 36 dX10_sheet_26 (by decide) (fun c26 => ?_) (fun c26 => ?_)
          · skip
            exact body (Or.inr (Or.inr (Or.inr c26)))
          · skip
            refine g_aload_n (pc := 29) o dX10_sheet_29 rfl ?_
            refine g_ldc (pc := 30) o dX10_sheet_30 lc_X10_68 ?_
            refine g_callVi (pc := 32) o (m_finds 0 (by decide) h) mt_X10_finds mv_X10_finds lk_X10_86 rfl rfl rfl (by decide) rfl (Nat.le_of_ble_eq_true rfl) dX10_sheet_32 ?_
            exact g_iret o ρ dX10_sheet_35 (Pm.eq (if_neg (fun z => by rcases z.2 with q | q | q | q; exact c8 q; exact c14 q; exact c20 q; exact c26 q)) (Pm_fnd rfl (kC.rf h) (by decide)))

