set_option maxRecDepth 100000 in
theorem lp_latest {Γ : Fr} (o : ca_O Γ cX5_latest 5 RX5 2 45) {Pr : Option Value → Mem → Prop} (ρ : ca_R Γ (some .int) Pr) {h : Mem} {s : Nat → Int32} (B : BR h 1 s) (p w z : Int32) (hp : Pr (some (.int z)) h) : ∀ i, i ≤ 60 → ∀ xi : Int32, xi = nI i - 1 → latF s p w i = z → ca_G Γ 5 h 8 [some (.ref 4), some (.int p), some (.int (w / 100)), some (.int (jrem w 100)), some (.int xi)] [] := by
  intro i
  induction i with
  | zero =>
    rintro _ xi rfl e2
    refine g_iload (pc := 8) o dX5_latest_8 rfl ?_
    refine g_if_lt (pc := 10) o 44 dX5_latest_10 (by decide) (fun c10 => ?_) (fun c10 => ?_)
    · skip
      refine g_iconst (pc := 44) o dX5_latest_44 (-1) rfl ?_
      exact g_iret o ρ dX5_latest_45 (by rw [show (-1 : Int32) = z from e2]; exact hp)
    · skip
      exact absurd (by decide) c10
  | succ i ih =>
    rintro hi xi rfl e2
    rw [nI_pred]
    rw [latF_s] at e2
    have b := B.2.2.1 i (by omega)
    refine g_iload (pc := 8) o dX5_latest_8 rfl ?_
    refine g_if_lt (pc := 10) o 44 dX5_latest_10 (by decide) (fun c10 => ?_) (fun c10 => ?_)
    · skip
      exact absurd c10 (nI_pos (by omega))
    · skip
      refine g_aload_n (pc := 13) o dX5_latest_13 rfl ?_
      refine g_iload (pc := 14) o dX5_latest_14 rfl ?_
      refine g_iload_n (pc := 16) o dX5_latest_16 rfl ?_
      refine g_iload_n (pc := 17) o dX5_latest_17 rfl ?_
      refine g_callVi (pc := 18) o (c_isOf B i (by omega) p (w / 100)) mt_X5_isOf mv_X5_isOf lk_X5_19 rfl rfl rfl (by decide) rfl (Nat.le_of_ble_eq_true rfl) dX5_latest_18 ?_
      refine g_if_eq (pc := 21) o 38 dX5_latest_21 (by decide) (fun c21 => ?_) (fun c21 => ?_)
      · skip
        rw [if_neg (fun z => bI_0.mp c21 ⟨z.1, by rw [z.2]⟩)] at e2
        refine g_iinc (pc := 38) o dX5_latest_38 rfl (-1) rfl (by decide) ?_
        refine g_goto (pc := 41) o 8 dX5_latest_41 (by decide) ?_
        exact ih (by omega) _ (Int32.sub_eq_add_neg _ _).symm e2
      · skip
        have k1 := bI_n0.mp c21
        refine g_aload_n (pc := 24) o dX5_latest_24 rfl ?_
        refine g_iload (pc := 25) o dX5_latest_25 rfl ?_
        refine g_iconst (pc := 27) o dX5_latest_27 3 rfl ?_
        refine g_callVi (pc := 28) o (c_sfield i 3 (by omega) (by decide)) mt_X5_field mv_X5_field lk_X5_23 rfl rfl rfl (by decide) rfl (Nat.le_of_ble_eq_true rfl) dX5_latest_28 ?_
        refine g_iload_n (pc := 31) o dX5_latest_31 rfl ?_
        refine g_ic_ne (pc := 32) o 38 dX5_latest_32 (by decide) (fun c32 => ?_) (fun c32 => ?_)
        · skip
          rw [b.2.2.2] at c32
          rw [if_neg (fun z => c32 (by rw [z.2]))] at e2
          refine g_iinc (pc := 38) o dX5_latest_38 rfl (-1) rfl (by decide) ?_
          refine g_goto (pc := 41) o 8 dX5_latest_41 (by decide) ?_
          exact ih (by omega) _ (Int32.sub_eq_add_neg _ _).symm e2
        · skip
          rw [b.2.2.2] at c32
          rw [if_pos ⟨k1.1, (w_eq _ _).mp ⟨k1.2, c32⟩⟩] at e2
          refine g_iload (pc := 35) o dX5_latest_35 rfl ?_
          exact g_iret o ρ dX5_latest_37 (by rw [e2]; exact hp)
set_option maxRecDepth 100000 in
set_option maxHeartbeats 4000000 in
theorem c_latest {h : Mem} {s : Nat → Int32} (B : BR h 1 s) {n : Nat} (hn : n ≤ 60) (e8 : s 8 = nI n) (p w : Int32) : Ct yX5_latest cX5_latest 5 (some .int) 2 45 [.ref 4, .int p, .int (w / 100), .int (jrem w 100)] h (Ei (latF s p w n) h) := by
  refine Ct.of (by decide) (Nat.le_of_ble_eq_true rfl) (fun Γ o ρ => ?_)
  refine g_aload_n (pc := 0) o dX5_latest_0 rfl ?_
  refine g_getIE (pc := 1) o 1 rfl rfl rfl inX5 (by decide) lf_X5_15 (B.2.1.trans e8) dX5_latest_1 ?_
  refine g_iconst (pc := 4) o dX5_latest_4 1 rfl ?_
  refine g_isub (pc := 5) o dX5_latest_5 ?_
  refine g_istore (pc := 6) o dX5_latest_6 (by decide) ?_
  exact lp_latest o ρ B p w _ ⟨rfl, rfl⟩ n hn _ rfl rfl
set_option maxRecDepth 100000 in
set_option maxHeartbeats 4000000 in
theorem c_counts {h : Mem} {s : Nat → Int32} (B : BR h 1 s) {n : Nat} (hn : n ≤ 60) (e8 : s 8 = nI n) (k : Nat) (hk : k < 60) : Ct yX5_counts cX5_counts 2 (some .boolean) 3 69 [.ref 4, .int (nI k)] h (Ei (bI (latF s (s (9 + 3 * k)) (s (11 + 3 * k)) n = nI k)) h) := by
  refine Ct.of (by decide) (Nat.le_of_ble_eq_true rfl) (fun Γ o ρ => ?_)
  have b := B.2.2.1 k hk
  refine g_aload_n (pc := 0) o dX5_counts_0 rfl ?_
  refine g_aload_n (pc := 1) o dX5_counts_1 rfl ?_
  refine g_iload_n (pc := 2) o dX5_counts_2 rfl ?_
  refine g_iconst (pc := 3) o dX5_counts_3 0 rfl ?_
  refine g_callVi (pc := 4) o (c_sfield k 0 hk (by decide)) mt_X5_field mv_X5_field lk_X5_23 rfl rfl rfl (by decide) rfl (Nat.le_of_ble_eq_true rfl) dX5_counts_4 ?_
  refine g_aload_n (pc := 7) o dX5_counts_7 rfl ?_
  refine g_iload_n (pc := 8) o dX5_counts_8 rfl ?_
  refine g_iconst (pc := 9) o dX5_counts_9 2 rfl ?_
  refine g_callVi (pc := 10) o (c_sfield k 2 hk (by decide)) mt_X5_field mv_X5_field lk_X5_23 rfl rfl rfl (by decide) rfl (Nat.le_of_ble_eq_true rfl) dX5_counts_10 ?_
  refine g_aload_n (pc := 13) o dX5_counts_13 rfl ?_
  refine g_iload_n (pc := 14) o dX5_counts_14 rfl ?_
  refine g_iconst (pc := 15) o dX5_counts_15 3 rfl ?_
  refine g_callVi (pc := 16) o (c_sfield k 3 hk (by decide)) mt_X5_field mv_X5_field lk_X5_23 rfl rfl rfl (by decide) rfl (Nat.le_of_ble_eq_true rfl) dX5_counts_16 ?_
  rw [show 4 * k + 0 = 4 * k from rfl, b.1, b.2.2.1, b.2.2.2]
  refine g_callVi (pc := 19) o (c_latest B hn e8 (s (9 + 3 * k)) (s (11 + 3 * k))) mt_X5_latest mv_X5_latest lk_X5_27 rfl rfl rfl (by decide) rfl (Nat.le_of_ble_eq_true rfl) dX5_counts_19 ?_
  refine g_iload_n (pc := 22) o dX5_counts_22 rfl ?_
  refine g_ic_ne (pc := 23) o 30 dX5_counts_23 (by decide) (fun c23 => ?_) (fun c23 => ?_)
  · skip
    refine g_iconst (pc := 30) o dX5_counts_30 0 rfl ?_
    exact g_zret o ρ (by first | rfl | exact bI_b) dX5_counts_31 (Ei.mk (bI_f c23) rfl)
  · skip
    refine g_iconst (pc := 26) o dX5_counts_26 1 rfl ?_
    refine g_goto (pc := 27) o 31 dX5_counts_27 (by decide) ?_
    exact g_zret o ρ (by first | rfl | exact bI_b) dX5_counts_31 (Ei.mk (bI_t c23) rfl)
theorem ix40 (n : Nat) : nI n * nI 4 + nI 0 = nI (4 * n) := by rw [ix, Nat.mul_comm]; rfl
def addM (h : Mem) (n : Nat) (p q d m : Int32) : Mem := mw (mw (mw (mw (mw h 5 (4 * n) p) 5 (4 * n + 1) q) 5 (4 * n + 2) d) 5 (4 * n + 3) m) 4 1 (nI n + 1)
def sawS (s : Nat → Int32) (n : Nat) (p q w : Int32) : Nat → Int32 := upd (upd (upd (upd s (9 + 3 * n) p) (10 + 3 * n) q) (11 + 3 * n) w) 8 (nI n + 1)
theorem BR_saw {h : Mem} {s : Nat → Int32} (B : BR h 1 s) {n : Nat} (hn : n < 60) (p q w : Int32) : BR (addM h n p q (w / 100) (jrem w 100)) 1 (sawS s n p q w) := BR_so (BR_sr B hn rfl rfl)
theorem addM_off {h : Mem} {n k : Nat} {p q d m : Int32} (hk : k ≠ 4 ∧ k ≠ 5) : (addM h n p q d m).1 k = h.1 k := by
  unfold addM
  rw [mw_ne _ _ _ hk.1, mw_ne _ _ _ hk.2, mw_ne _ _ _ hk.2, mw_ne _ _ _ hk.2, mw_ne _ _ _ hk.2]
theorem CR_saw {h : Mem} {σ : Sg} (C : CR h σ) {n : Nat} (hn : n < 60) (p q w : Int32) : CR (addM h n p q (w / 100) (jrem w 100)) (sf σ 0 (sawS (σ 0) n p q w)) := CR_s C (BR_saw C.1 hn p q w) (fun k _ hk2 => addM_off ⟨fun z => by subst z; revert hk2; decide, fun z => by subst z; revert hk2; decide⟩)
theorem kM_saw {h h1 : Mem} (H : kM h h1) {n : Nat} {p q d m : Int32} : kM h (addM h1 n p q d m) := fun k hk => (addM_off (by omega)).trans (H k hk)
set_option maxRecDepth 100000 in
set_option maxHeartbeats 4000000 in
theorem c_sadd {h : Mem} {s : Nat → Int32} (B : BR h 1 s) {n : Nat} (hn : n < 60) (e8 : s 8 = nI n) (p q d m : Int32) : Ct yX5_add cX5_add 6 (some .int) 0 0 [.ref 4, .int p, .int q, .int d, .int m] h (Ei (nI n) (addM h n p q d m)) := by
  refine Ct.of (by decide) (Nat.le_of_ble_eq_true rfl) (fun Γ o ρ => ?_)
  refine g_aload_n (pc := 0) o dX5_add_0 rfl ?_
  refine g_getIE (pc := 1) o 1 rfl rfl rfl inX5 (by decide) lf_X5_15 (B.2.1.trans e8) dX5_add_1 ?_
  refine g_iconst (pc := 4) o dX5_add_4 4 rfl ?_
  refine g_imul (pc := 5) o dX5_add_5 ?_
  refine g_istore (pc := 6) o dX5_add_6 (by decide) ?_
  refine g_aload_n (pc := 8) o dX5_add_8 rfl ?_
  refine g_getR (pc := 9) o 0 rfl rfl rfl inX5 (by decide) lf_X5_11 dX5_add_9 ?_
  refine g_iload (pc := 12) o dX5_add_12 rfl ?_
  refine g_iconst (pc := 14) o dX5_add_14 0 rfl ?_
  refine g_iadd (pc := 15) o dX5_add_15 ?_
  refine g_iload_n (pc := 16) o dX5_add_16 rfl ?_
  refine n_iast (pc := 17) o (4 * n) (ix40 n) rfl ((by omega)) (by decide) dX5_add_17 ?_
  refine g_aload_n (pc := 18) o dX5_add_18 rfl ?_
  refine g_getR (pc := 19) o 0 rfl rfl rfl inX5 (by decide) lf_X5_11 dX5_add_19 ?_
  refine g_iload (pc := 22) o dX5_add_22 rfl ?_
  refine g_iconst (pc := 24) o dX5_add_24 1 rfl ?_
  refine g_iadd (pc := 25) o dX5_add_25 ?_
  refine g_iload_n (pc := 26) o dX5_add_26 rfl ?_
  refine n_iast (pc := 27) o (4 * n + 1) ((ix n 4 1).trans (by rw [Nat.mul_comm])) rfl ((by omega)) (by decide) dX5_add_27 ?_
  refine g_aload_n (pc := 28) o dX5_add_28 rfl ?_
  refine g_getR (pc := 29) o 0 rfl rfl rfl inX5 (by decide) lf_X5_11 dX5_add_29 ?_
  refine g_iload (pc := 32) o dX5_add_32 rfl ?_
  refine g_iconst (pc := 34) o dX5_add_34 2 rfl ?_
  refine g_iadd (pc := 35) o dX5_add_35 ?_
  refine g_iload_n (pc := 36) o dX5_add_36 rfl ?_
  refine n_iast (pc := 37) o (4 * n + 2) ((ix n 4 2).trans (by rw [Nat.mul_comm])) rfl ((by omega)) (by decide) dX5_add_37 ?_
  refine g_aload_n (pc := 38) o dX5_add_38 rfl ?_
  refine g_getR (pc := 39) o 0 rfl rfl rfl inX5 (by decide) lf_X5_11 dX5_add_39 ?_
  refine g_iload (pc := 42) o dX5_add_42 rfl ?_
  refine g_iconst (pc := 44) o dX5_add_44 3 rfl ?_
  refine g_iadd (pc := 45) o dX5_add_45 ?_
  refine g_iload (pc := 46) o dX5_add_46 rfl ?_
  refine n_iast (pc := 48) o (4 * n + 3) ((ix n 4 3).trans (by rw [Nat.mul_comm])) rfl ((by omega)) (by decide) dX5_add_48 ?_
  refine g_aload_n (pc := 49) o dX5_add_49 rfl ?_
  refine g_dup (pc := 50) o dX5_add_50 rfl ?_
  refine g_getIE (pc := 51) o 1 rfl rfl rfl inX5 (by decide) lf_X5_15 (B.2.1.trans e8) dX5_add_51 ?_
  refine g_iconst (pc := 54) o dX5_add_54 1 rfl ?_
  refine g_iadd (pc := 55) o dX5_add_55 ?_
  refine g_put (pc := 56) o 1 rfl rfl rfl inX5 tyX5_ok nmX5 (by decide) lf_X5_15 rfl rfl rfl dX5_add_56 ?_
  refine g_aload_n (pc := 59) o dX5_add_59 rfl ?_
  refine g_getIE (pc := 60) o 1 rfl rfl rfl inX5 (by decide) lf_X5_15 (rfl) dX5_add_60 ?_
  refine g_iconst (pc := 63) o dX5_add_63 1 rfl ?_
  refine g_isub (pc := 64) o dX5_add_64 ?_
  exact g_iret o ρ dX5_add_65 (Ei.mk (by show nI n + 1 - 1 = nI n; rw [nI_1, nI_pred]) rfl)
/-! the model's -/
set_option maxRecDepth 100000 in
theorem lp_mlatest {Γ : Fr} (o : ca_O Γ cX10_latest 5 RX10 0 0) {Pr : Option Value → Mem → Prop} (ρ : ca_R Γ (some .int) Pr) {h : Mem} {n : Nat} (hn : n ≤ 60) (e8 : h.1 52 8 = nI n) (p w : Int32) (hp : Pr (some (.int (latF (h.1 52) p w n))) h) : ∀ i, i ≤ n → ∀ xi a : Int32, xi = nI i → a = latF (h.1 52) p w i → ca_G Γ 5 h 5 [some (.ref 51), some (.int p), some (.int w), some (.int a), some (.int xi)] [] := by
  refine downI n (fun i hi ih => ?_)
  rintro xi a rfl rfl
  have q1 : nI 9 + nI 3 * nI i = nI (9 + 3 * i) := by rw [pk_mul, nI_add]
  have q2 : nI 9 + nI 3 * nI i + nI 2 = nI (11 + 3 * i) := by rw [pk_mul, nI_add, nI_add]; congr 1; omega
  refine g_iload (pc := 5) o dX10_latest_5 rfl ?_
  refine g_aload_n (pc := 7) o dX10_latest_7 rfl ?_
  refine g_getR (pc := 8) o 0 rfl rfl rfl inX10 (by decide) lf_X10_7 dX10_latest_8 ?_
  refine g_bipush (pc := 11) o dX10_latest_11 8 rfl ?_
  refine n_ialdE (pc := 13) o 8 (rfl) rfl ((by omega)) (by decide) (e8) dX10_latest_13 ?_
  refine g_ic_ge (pc := 14) o 64 dX10_latest_14 (by decide) (fun c14 => ?_) (fun c14 => ?_)
  · skip
    have e : i = n := ge8 (n := n) (by omega) (by omega) c14
    subst e
    refine g_iload_n (pc := 64) o dX10_latest_64 rfl ?_
    exact g_iret o ρ dX10_latest_65 hp
  · skip
    have e : i < n := lt8 (n := n) (by omega) (by omega) c14
    refine g_aload_n (pc := 17) o dX10_latest_17 rfl ?_
    refine g_getR (pc := 18) o 0 rfl rfl rfl inX10 (by decide) lf_X10_7 dX10_latest_18 ?_
    refine g_bipush (pc := 21) o dX10_latest_21 9 rfl ?_
    refine g_iconst (pc := 23) o dX10_latest_23 3 rfl ?_
    refine g_iload (pc := 24) o dX10_latest_24 rfl ?_
    refine g_imul (pc := 26) o dX10_latest_26 ?_
    refine g_iadd (pc := 27) o dX10_latest_27 ?_
    refine n_iald (pc := 28) o (9 + 3 * i) (q1) rfl ((by omega)) (by decide) dX10_latest_28 ?_
    refine g_iload_n (pc := 29) o dX10_latest_29 rfl ?_
    refine g_ic_ne (pc := 30) o 56 dX10_latest_30 (by decide) (fun c30 => ?_) (fun c30 => ?_)
    · skip
      refine g_iload_n (pc := 56) o dX10_latest_56 rfl ?_
      refine g_istore_n (pc := 57) o dX10_latest_57 (by decide) ?_
      refine g_iinc (pc := 58) o dX10_latest_58 rfl 1 rfl (by decide) ?_
      refine g_goto (pc := 61) o 5 dX10_latest_61 (by decide) ?_
      exact ih e _ _ (nI_1 i) (by rw [latF_s, if_neg (fun z => c30 z.1)])
    · skip
      refine g_aload_n (pc := 33) o dX10_latest_33 rfl ?_
      refine g_getR (pc := 34) o 0 rfl rfl rfl inX10 (by decide) lf_X10_7 dX10_latest_34 ?_
      refine g_bipush (pc := 37) o dX10_latest_37 9 rfl ?_
      refine g_iconst (pc := 39) o dX10_latest_39 3 rfl ?_
      refine g_iload (pc := 40) o dX10_latest_40 rfl ?_
      refine g_imul (pc := 42) o dX10_latest_42 ?_
      refine g_iadd (pc := 43) o dX10_latest_43 ?_
      refine g_iconst (pc := 44) o dX10_latest_44 2 rfl ?_
      refine g_iadd (pc := 45) o dX10_latest_45 ?_
      refine n_iald (pc := 46) o (11 + 3 * i) (q2) rfl ((by omega)) (by decide) dX10_latest_46 ?_
      refine g_iload_n (pc := 47) o dX10_latest_47 rfl ?_
      refine g_ic_ne (pc := 48) o 56 dX10_latest_48 (by decide) (fun c48 => ?_) (fun c48 => ?_)
      · skip
        refine g_iload_n (pc := 56) o dX10_latest_56 rfl ?_
        refine g_istore_n (pc := 57) o dX10_latest_57 (by decide) ?_
        refine g_iinc (pc := 58) o dX10_latest_58 rfl 1 rfl (by decide) ?_
        refine g_goto (pc := 61) o 5 dX10_latest_61 (by decide) ?_
        exact ih e _ _ (nI_1 i) (by rw [latF_s, if_neg (fun z => c48 z.2)])
      · skip
        refine g_iload (pc := 51) o dX10_latest_51 rfl ?_
        refine g_goto (pc := 53) o 57 dX10_latest_53 (by decide) ?_
        refine g_istore_n (pc := 57) o dX10_latest_57 (by decide) ?_
        refine g_iinc (pc := 58) o dX10_latest_58 rfl 1 rfl (by decide) ?_
        refine g_goto (pc := 61) o 5 dX10_latest_61 (by decide) ?_
        exact ih e _ _ (nI_1 i) (by rw [latF_s, if_pos ⟨c30, c48⟩])
set_option maxRecDepth 100000 in
set_option maxHeartbeats 4000000 in
theorem m_latest {h : Mem} {n : Nat} (hn : n ≤ 60) (e8 : h.1 52 8 = nI n) (p w : Int32) : Ct yX10_latest cX10_latest 5 (some .int) 0 0 [.ref 51, .int p, .int w] h (Ei (latF (h.1 52) p w n) h) := by
  refine Ct.of (by decide) (Nat.le_of_ble_eq_true rfl) (fun Γ o ρ => ?_)
  refine g_iconst (pc := 0) o dX10_latest_0 (-1) rfl ?_
  refine g_istore_n (pc := 1) o dX10_latest_1 (by decide) ?_
  refine g_iconst (pc := 2) o dX10_latest_2 0 rfl ?_
  refine g_istore (pc := 3) o dX10_latest_3 (by decide) ?_
  exact lp_mlatest o ρ hn e8 p w ⟨rfl, rfl⟩ 0 (by omega) 0 (-1) rfl rfl
def seeM (h : Mem) (n : Nat) (p q w : Int32) : Mem := mw (mw (mw (mw h 52 (9 + 3 * n) p) 52 (10 + 3 * n) q) 52 (11 + 3 * n) w) 52 8 (nI n + 1)
theorem seeM_off {h : Mem} {n k : Nat} {p q w : Int32} (hk : k ≠ 52) : (seeM h n p q w).1 k = h.1 k := by
  unfold seeM
  rw [mw_ne _ _ _ hk, mw_ne _ _ _ hk, mw_ne _ _ _ hk, mw_ne _ _ _ hk]
theorem seeM_s {h : Mem} {n : Nat} {p q w : Int32} : (seeM h n p q w).1 52 = sawS (h.1 52) n p q w := rfl
set_option maxRecDepth 100000 in
set_option maxHeartbeats 4000000 in
theorem m_sees {h : Mem} {n : Nat} (hn : n < 60) (e8 : h.1 52 8 = nI n) (p q w : Int32) : Ct yX10_sees cX10_sees 5 (some .int) 0 0 [.ref 51, .int p, .int q, .int w] h (Ei (nI n) (seeM h n p q w)) := by
  refine Ct.of (by decide) (Nat.le_of_ble_eq_true rfl) (fun Γ o ρ => ?_)
  have q0 : nI 9 + nI 3 * nI n = nI (9 + 3 * n) := by rw [pk_mul, nI_add]
  have q1 : nI 9 + nI 3 * nI n + nI 1 = nI (10 + 3 * n) := by rw [pk_mul, nI_add, nI_add]; congr 1; omega
  have q2 : nI 9 + nI 3 * nI n + nI 2 = nI (11 + 3 * n) := by rw [pk_mul, nI_add, nI_add]; congr 1; omega
  have e9 : (mw (mw (mw h 52 (9 + 3 * n) p) 52 (10 + 3 * n) q) 52 (11 + 3 * n) w).1 52 8 = nI n := by
    rw [mw_same, pk_un (by omega), mw_same, pk_un (by omega), mw_same, pk_un (by omega)]; exact e8
  refine g_bipush (pc := 0) o dX10_sees_0 9 rfl ?_
  refine g_iconst (pc := 2) o dX10_sees_2 3 rfl ?_
  refine g_aload_n (pc := 3) o dX10_sees_3 rfl ?_
  refine g_getR (pc := 4) o 0 rfl rfl rfl inX10 (by decide) lf_X10_7 dX10_sees_4 ?_
  refine g_bipush (pc := 7) o dX10_sees_7 8 rfl ?_
  refine n_ialdE (pc := 9) o 8 (rfl) rfl ((by omega)) (by decide) (e8) dX10_sees_9 ?_
  refine g_imul (pc := 10) o dX10_sees_10 ?_
  refine g_iadd (pc := 11) o dX10_sees_11 ?_
  refine g_istore (pc := 12) o dX10_sees_12 (by decide) ?_
  refine g_aload_n (pc := 14) o dX10_sees_14 rfl ?_
  refine g_getR (pc := 15) o 0 rfl rfl rfl inX10 (by decide) lf_X10_7 dX10_sees_15 ?_
  refine g_iload (pc := 18) o dX10_sees_18 rfl ?_
  refine g_iload_n (pc := 20) o dX10_sees_20 rfl ?_
  refine n_iast (pc := 21) o (9 + 3 * n) (q0) rfl ((by omega)) (by decide) dX10_sees_21 ?_
  refine g_aload_n (pc := 22) o dX10_sees_22 rfl ?_
  refine g_getR (pc := 23) o 0 rfl rfl rfl inX10 (by decide) lf_X10_7 dX10_sees_23 ?_
  refine g_iload (pc := 26) o dX10_sees_26 rfl ?_
  refine g_iconst (pc := 28) o dX10_sees_28 1 rfl ?_
  refine g_iadd (pc := 29) o dX10_sees_29 ?_
  refine g_iload_n (pc := 30) o dX10_sees_30 rfl ?_
  refine n_iast (pc := 31) o (10 + 3 * n) (q1) rfl ((by omega)) (by decide) dX10_sees_31 ?_
  refine g_aload_n (pc := 32) o dX10_sees_32 rfl ?_
  refine g_getR (pc := 33) o 0 rfl rfl rfl inX10 (by decide) lf_X10_7 dX10_sees_33 ?_
  refine g_iload (pc := 36) o dX10_sees_36 rfl ?_
  refine g_iconst (pc := 38) o dX10_sees_38 2 rfl ?_
  refine g_iadd (pc := 39) o dX10_sees_39 ?_
  refine g_iload_n (pc := 40) o dX10_sees_40 rfl ?_
  refine n_iast (pc := 41) o (11 + 3 * n) (q2) rfl ((by omega)) (by decide) dX10_sees_41 ?_
  refine g_aload_n (pc := 42) o dX10_sees_42 rfl ?_
  refine g_getR (pc := 43) o 0 rfl rfl rfl inX10 (by decide) lf_X10_7 dX10_sees_43 ?_
  refine g_bipush (pc := 46) o dX10_sees_46 8 rfl ?_
  refine g_dup2 (pc := 48) o dX10_sees_48 rfl rfl ?_
  refine n_ialdE (pc := 49) o 8 (rfl) rfl ((by omega)) (by decide) (e9) dX10_sees_49 ?_
  refine g_iconst (pc := 50) o dX10_sees_50 1 rfl ?_
  refine g_iadd (pc := 51) o dX10_sees_51 ?_
  refine n_iast (pc := 52) o 8 (rfl) rfl ((by omega)) (by decide) dX10_sees_52 ?_
  refine g_aload_n (pc := 53) o dX10_sees_53 rfl ?_
  refine g_getR (pc := 54) o 0 rfl rfl rfl inX10 (by decide) lf_X10_7 dX10_sees_54 ?_
  refine g_bipush (pc := 57) o dX10_sees_57 8 rfl ?_
  refine n_iald (pc := 59) o 8 (rfl) rfl ((by omega)) (by decide) dX10_sees_59 ?_
  refine g_iconst (pc := 60) o dX10_sees_60 1 rfl ?_
  refine g_isub (pc := 61) o dX10_sees_61 ?_
  exact g_iret o ρ dX10_sees_62 (Ei.mk (by show nI n + 1 - 1 = nI n; rw [nI_1, nI_pred]) rfl)

