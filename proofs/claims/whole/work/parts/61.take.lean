/-! ===== the class's reader: words and numbers ===== -/
theorem wdB_t (f : Nat → Int32) (b i : Nat) : ∀ k, wdB f b i k = true ↔ ∀ j, j < k → f (b + j) = chF i j
  | 0 => ⟨fun _ j hj => by omega, fun _ => rfl⟩
  | k + 1 => by
    show (wdB f b i k && decide (f (b + k) = chF i k)) = true ↔ _
    rw [Bool.and_eq_true, wdB_t f b i k, decide_eq_true_eq]
    constructor
    · rintro ⟨a, c⟩ j hj
      by_cases w : j = k
      · rw [w]; exact c
      · exact a j (by omega)
    · intro a
      exact ⟨fun j hj => a j (by omega), a k (by omega)⟩
theorem ch_a : ∀ i, i < 12 → rng (chF i 0) 97 122 := by decide +kernel
theorem wd_sr {f : Nat → Int32} {n : Nat} {t : Nat × Nat} (o : tkO n t) {i : Nat} (hi : i < 12) (w : wdP f t i) : srF f n t.1 = 1 := by
  have l := ln_7 i hi
  have e := (wdB_t f t.1 i (lnF i)).mp w.2 0 (by omega)
  have lt : t.1 < n := by have := w.1; omega
  rw [Nat.add_zero] at e
  rw [sr_v lt, e, if_pos (ch_a i hi)]
set_option maxRecDepth 100000 in
set_option maxHeartbeats 400000 in
theorem lp_itt {Γ : Fr} (o : ca_O Γ cX3_isTokenText 3 RX3 5 106) {Pr : Option Value → Mem → Prop} (ρ : ca_R Γ (some .boolean) Pr) {h : Mem} {f : Nat → Int32} {n : Nat} (T : TP h f n) {t : Nat × Nat} (e6 : h.1 30 6 = nI t.1) (ok : tkO n t) (i : Nat) (hi : i < 12) (hl : t.2 - t.1 = lnF i) (h1 : wdB f t.1 i (lnF i) = true → Pr (some (.int 1)) h) (h0 : ¬ wdB f t.1 i (lnF i) = true → Pr (some (.int 0)) h) : ∀ j, j ≤ lnF i → ∀ (xj : Int32), xj = nI j → (∀ k, k < j → f (t.1 + k) = chF i k) → ca_G Γ 3 h 20 [some (.ref 30), some (.ref (1000 + i)), some (.int xj)] [] := by
  have l7 := ln_7 i hi
  have l120 := T.2.1
  refine downI (lnF i) (fun j hj ih => ?_)
  rintro xj rfl e1
  refine g_iload_n (pc := 20) o dX3_isTokenText_20 rfl ?_
  refine g_aload_n (pc := 21) o dX3_isTokenText_21 rfl ?_
  refine g_callTi (pc := 22) o (c_length hi) mt_J0_length_8abf5 mv_J0_length_8abf5 lk_X3_117 hi rfl rfl (by decide) rfl (Nat.le_of_ble_eq_true rfl) dX3_isTokenText_22 ?_
  refine g_ic_ge (pc := 25) o 55 dX3_isTokenText_25 (by decide) (fun c25 => ?_) (fun c25 => ?_)
  · skip
    have z : j = lnF i := ge8 (n := lnF i) (by omega) (by omega) c25
    subst z
    refine g_iconst (pc := 55) o dX3_isTokenText_55 1 rfl ?_
    exact g_zret o ρ (by first | rfl | exact bI_b) dX3_isTokenText_56 (h1 ((wdB_t f t.1 i (lnF i)).mpr e1))
  · skip
    have z : j < lnF i := lt8 (n := lnF i) (by omega) (by omega) c25
    refine g_aload_n (pc := 28) o dX3_isTokenText_28 rfl ?_
    refine g_getR (pc := 29) o 0 rfl rfl rfl inX3 (by decide) lf_X3_11 dX3_isTokenText_29 ?_
    refine g_aload_n (pc := 32) o dX3_isTokenText_32 rfl ?_
    refine g_getIE (pc := 33) o 6 rfl rfl rfl inX3 (by decide) lf_X3_114 (e6) dX3_isTokenText_33 ?_
    refine g_iload_n (pc := 36) o dX3_isTokenText_36 rfl ?_
    refine g_iadd (pc := 37) o dX3_isTokenText_37 ?_
    rw [nI_add]
    refine n_ialdE (pc := 38) o (t.1 + j) (rfl) rfl ((by omega)) (by decide) (T.2.2 (t.1 + j) (by omega)) dX3_isTokenText_38 ?_
    refine g_aload_n (pc := 39) o dX3_isTokenText_39 rfl ?_
    refine g_iload_n (pc := 40) o dX3_isTokenText_40 rfl ?_
    refine g_callTi (pc := 41) o (c_charAt hi j z) mt_J0_charAt_5068e mv_J0_charAt_5068e lk_X3_122 hi rfl rfl (by decide) rfl (Nat.le_of_ble_eq_true rfl) dX3_isTokenText_41 ?_
    refine g_ic_eq (pc := 44) o 49 dX3_isTokenText_44 (by decide) (fun c44 => ?_) (fun c44 => ?_)
    · skip
      refine g_iinc (pc := 49) o dX3_isTokenText_49 rfl 1 rfl (by decide) ?_
      show ca_G Γ 3 _ _ [_, _, _] _
      refine g_goto (pc := 52) o 20 dX3_isTokenText_52 (by decide) ?_
      refine ih z _ (nI_1 j) (fun k hk => ?_)
      by_cases w : k = j
      · rw [w]; exact c44
      · exact e1 k (by omega)
    · skip
      refine g_iconst (pc := 47) o dX3_isTokenText_47 0 rfl ?_
      exact g_zret o ρ (by first | rfl | exact bI_b) dX3_isTokenText_48 (h0 (fun y => c44 ((wdB_t f t.1 i (lnF i)).mp y j z)))
set_option maxRecDepth 100000 in
set_option maxHeartbeats 400000 in
theorem c_itt {h : Mem} {f : Nat → Int32} {n : Nat} (T : TP h f n) {t : Nat × Nat} (R : RT h f n t) (ok : tkO n t) (i : Nat) (hi : i < 12) : Ct yX3_isTokenText cX3_isTokenText 3 (some .boolean) 5 106 [.ref 30, .ref (1000 + i)] h (Ei (bI (wdP f t i)) h) := by
  refine Ct.of (by decide) (Nat.le_of_ble_eq_true rfl) (fun Γ o ρ => ?_)
  show ca_G Γ 3 _ _ [_, _, _] _
  have l7 := ln_7 i hi
  have l120 := T.2.1
  refine g_aload_n (pc := 0) o dX3_isTokenText_0 rfl ?_
  refine g_callTi (pc := 1) o (c_length hi) mt_J0_length_8abf5 mv_J0_length_8abf5 lk_X3_117 hi rfl rfl (by decide) rfl (Nat.le_of_ble_eq_true rfl) dX3_isTokenText_1 ?_
  refine g_aload_n (pc := 4) o dX3_isTokenText_4 rfl ?_
  refine g_getIE (pc := 5) o 7 rfl rfl rfl inX3 (by decide) lf_X3_43 (R.2.2.1) dX3_isTokenText_5 ?_
  refine g_aload_n (pc := 8) o dX3_isTokenText_8 rfl ?_
  refine g_getIE (pc := 9) o 6 rfl rfl rfl inX3 (by decide) lf_X3_114 (R.2.1) dX3_isTokenText_9 ?_
  refine g_isub (pc := 12) o dX3_isTokenText_12 ?_
  rw [pk_sub ok.1]
  refine g_ic_eq (pc := 13) o 18 dX3_isTokenText_13 (by decide) (fun c13 => ?_) (fun c13 => ?_)
  · skip
    have w := (nI_eq (a := lnF i) (b := t.2 - t.1) (by omega) (by omega)).mp c13
    refine g_iconst (pc := 18) o dX3_isTokenText_18 0 rfl ?_
    refine g_istore_n (pc := 19) o dX3_isTokenText_19 (by decide) ?_
    show ca_G Γ 3 _ _ [_, _, _] _
    exact lp_itt o ρ T R.2.1 ok i hi w.symm (fun y => Ei.mk (bI_t ⟨w.symm, y⟩) rfl) (fun y => Ei.mk (bI_f (fun u => y u.2)) rfl) 0 (by omega) _ rfl (fun k hk => by omega)
  · skip
    have w := mt (nI_eq (a := lnF i) (b := t.2 - t.1) (by omega) (by omega)).mpr c13
    refine g_iconst (pc := 16) o dX3_isTokenText_16 0 rfl ?_
    exact g_zret o ρ (by first | rfl | exact bI_b) dX3_isTokenText_17 (Ei.mk (bI_f (fun u => w u.1.symm)) rfl)
set_option maxRecDepth 100000 in
set_option maxHeartbeats 400000 in
theorem c_refuse {h : Mem} {b : Nat} (e6 : h.1 30 6 = nI b) (e4 : h.1 30 4 = -1) : Ct yX3_refuse cX3_refuse 1 (some .int) 0 0 [.ref 30] h (Ei 0 (mw h 30 4 (nI b))) := by
  refine Ct.of (by decide) (Nat.le_of_ble_eq_true rfl) (fun Γ o ρ => ?_)
  show ca_G Γ 1 _ _ [_] _
  refine g_aload_n (pc := 0) o dX3_refuse_0 rfl ?_
  refine g_getIE (pc := 1) o 4 rfl rfl rfl inX3 (by decide) lf_X3_40 (e4) dX3_refuse_1 ?_
  refine g_iconst (pc := 4) o dX3_refuse_4 (-1) rfl ?_
  refine g_ic_ne (pc := 5) o 16 dX3_refuse_5 (by decide) (fun c5 => ?_) (fun c5 => ?_)
  · skip
    exact absurd rfl c5
  · skip
    refine g_aload_n (pc := 8) o dX3_refuse_8 rfl ?_
    refine g_aload_n (pc := 9) o dX3_refuse_9 rfl ?_
    refine g_getIE (pc := 10) o 6 rfl rfl rfl inX3 (by decide) lf_X3_114 (e6) dX3_refuse_10 ?_
    refine g_put (pc := 13) o 4 rfl rfl rfl inX3 tyX3_ok nmX3 (by decide) lf_X3_40 rfl rfl rfl dX3_refuse_13 ?_
    refine g_iconst (pc := 16) o dX3_refuse_16 0 rfl ?_
    exact g_iret o ρ dX3_refuse_17 (Ei.mk rfl rfl)
set_option maxRecDepth 100000 in
set_option maxHeartbeats 400000 in
theorem c_refuseX {h : Mem} (e4 : ¬ h.1 30 4 = -1) : Ct yX3_refuse cX3_refuse 1 (some .int) 0 0 [.ref 30] h (Ei 0 h) := by
  refine Ct.of (by decide) (Nat.le_of_ble_eq_true rfl) (fun Γ o ρ => ?_)
  show ca_G Γ 1 _ _ [_] _
  refine g_aload_n (pc := 0) o dX3_refuse_0 rfl ?_
  refine g_getI (pc := 1) o 4 rfl rfl rfl inX3 (by decide) lf_X3_40 dX3_refuse_1 ?_
  refine g_iconst (pc := 4) o dX3_refuse_4 (-1) rfl ?_
  refine g_ic_ne (pc := 5) o 16 dX3_refuse_5 (by decide) (fun c5 => ?_) (fun c5 => ?_)
  · skip
    refine g_iconst (pc := 16) o dX3_refuse_16 0 rfl ?_
    exact g_iret o ρ dX3_refuse_17 (Ei.mk rfl rfl)
  · skip
    exact absurd c5 e4
set_option maxRecDepth 100000 in
set_option maxHeartbeats 400000 in
theorem c_takeWord {h : Mem} {f : Nat → Int32} {n : Nat} (T : TP h f n) {t : Nat × Nat} (R : RT h f n t) (ok : tkO n t) (e4 : h.1 30 4 = -1) (i : Nat) (hi : i < 12) : Ct yX3_takeWord cX3_takeWord 2 (some .boolean) 6 128 [.ref 30, .ref (1000 + i)] h (Qi (fun r h2 => (wdP f t i ∧ r = 1 ∧ RT h2 f n (nxF f n t) ∧ offR h h2) ∨ (¬ wdP f t i ∧ r = 0 ∧ h2 = h))) := by
  refine Ct.of (by decide) (Nat.le_of_ble_eq_true rfl) (fun Γ o ρ => ?_)
  show ca_G Γ 2 _ _ [_, _] _
  have s4 := sr_4 f n t.1
  refine g_aload_n (pc := 0) o dX3_takeWord_0 rfl ?_
  refine g_getIE (pc := 1) o 4 rfl rfl rfl inX3 (by decide) lf_X3_40 (e4) dX3_takeWord_1 ?_
  refine g_iconst (pc := 4) o dX3_takeWord_4 (-1) rfl ?_
  refine g_ic_ne (pc := 5) o 24 dX3_takeWord_5 (by decide) (fun c5 => ?_) (fun c5 => ?_)
  · skip
    exact absurd rfl c5
  · skip
    refine g_aload_n (pc := 8) o dX3_takeWord_8 rfl ?_
    refine g_getIE (pc := 9) o 5 rfl rfl rfl inX3 (by decide) lf_X3_52 (R.1) dX3_takeWord_9 ?_
    refine g_iconst (pc := 12) o dX3_takeWord_12 1 rfl ?_
    refine g_ic_ne (pc := 13) o 24 dX3_takeWord_13 (by decide) (fun c13 => ?_) (fun c13 => ?_)
    · skip
      have y : ¬ srF f n t.1 = 1 := fun y => c13 (by rw [y]; rfl)
      refine g_iconst (pc := 24) o dX3_takeWord_24 0 rfl ?_
      exact g_zret o ρ (by first | rfl | exact bI_b) dX3_takeWord_25 ⟨_, rfl, Or.inr ⟨fun u => y (wd_sr ok hi u), rfl, rfl⟩⟩
    · skip
      refine g_aload_n (pc := 16) o dX3_takeWord_16 rfl ?_
      refine g_aload_n (pc := 17) o dX3_takeWord_17 rfl ?_
      refine g_callVi (pc := 18) o (c_itt T R ok i hi) mt_X3_isTokenText mv_X3_isTokenText lk_X3_97 rfl rfl rfl (by decide) rfl (Nat.le_of_ble_eq_true rfl) dX3_takeWord_18 ?_
      refine g_if_ne (pc := 21) o 26 dX3_takeWord_21 (by decide) (fun c21 => ?_) (fun c21 => ?_)
      · skip
        have w := bI_n0.mp c21
        refine g_aload_n (pc := 26) o dX3_takeWord_26 rfl ?_
        refine g_callVQv (pc := 27) o (c_advance T t.2 ok.2 R.2.2.1) mt_X3_advance mv_X3_advance lk_X3_46 rfl rfl rfl (by decide) rfl (Nat.le_of_ble_eq_true rfl) dX3_takeWord_27 ?_
        rintro h2 u
        obtain ⟨u1, u2⟩ := u
        refine g_iconst (pc := 30) o dX3_takeWord_30 1 rfl ?_
        exact g_zret o ρ (by first | rfl | exact bI_b) dX3_takeWord_31 ⟨_, rfl, Or.inl ⟨w, rfl, u1, u2⟩⟩
      · skip
        have w := bI_0.mp c21
        refine g_iconst (pc := 24) o dX3_takeWord_24 0 rfl ?_
        exact g_zret o ρ (by first | rfl | exact bI_b) dX3_takeWord_25 ⟨_, rfl, Or.inr ⟨w, rfl, rfl⟩⟩
set_option maxRecDepth 100000 in
set_option maxHeartbeats 400000 in
theorem c_takeWordX {h : Mem} (e4 : ¬ h.1 30 4 = -1) (i : Nat) : Ct yX3_takeWord cX3_takeWord 2 (some .boolean) 6 128 [.ref 30, .ref (1000 + i)] h (Ei 0 h) := by
  refine Ct.of (by decide) (Nat.le_of_ble_eq_true rfl) (fun Γ o ρ => ?_)
  show ca_G Γ 2 _ _ [_, _] _
  refine g_aload_n (pc := 0) o dX3_takeWord_0 rfl ?_
  refine g_getI (pc := 1) o 4 rfl rfl rfl inX3 (by decide) lf_X3_40 dX3_takeWord_1 ?_
  refine g_iconst (pc := 4) o dX3_takeWord_4 (-1) rfl ?_
  refine g_ic_ne (pc := 5) o 24 dX3_takeWord_5 (by decide) (fun c5 => ?_) (fun c5 => ?_)
  · skip
    refine g_iconst (pc := 24) o dX3_takeWord_24 0 rfl ?_
    exact g_zret o ρ (by first | rfl | exact bI_b) dX3_takeWord_25 (Ei.mk rfl rfl)
  · skip
    exact absurd c5 e4
set_option maxRecDepth 100000 in
set_option maxHeartbeats 400000 in
theorem c_takeNum {h : Mem} {f : Nat → Int32} {n : Nat} (T : TP h f n) {t : Nat × Nat} (R : RT h f n t) (ok : tkO n t) (e4 : h.1 30 4 = -1) (lo hi : Nat) (hl : lo ≤ 9999) (hh : hi ≤ 9999) : Ct yX3_takeNumber cX3_takeNumber 4 (some .int) 2 43 [.ref 30, .int (nI lo), .int (nI hi)] h (Qi (fun r h2 => (∃ v, pNum f n t lo hi = some v ∧ r = nI v ∧ RT h2 f n (nxF f n t) ∧ offR h h2) ∨ (pNum f n t lo hi = none ∧ r = 0 ∧ h2 = mw h 30 4 (nI t.1)))) := by
  refine Ct.of (by decide) (Nat.le_of_ble_eq_true rfl) (fun Γ o ρ => ?_)
  show ca_G Γ 4 _ _ [_, _, _, _] _
  have s4 := sr_4 f n t.1
  have vl : vcF f n t ≤ 10000 := by unfold vcF; split <;> omega
  have bad : ¬ (srF f n t.1 = 2 ∧ lo ≤ vaF f t ∧ vaF f t ≤ hi) → ca_G Γ 4 h 32 [some (.ref 30), some (.int (nI lo)), some (.int (nI hi)), none] [] := fun y => by
    refine g_aload_n (pc := 32) o dX3_takeNumber_32 rfl ?_
    refine g_callVi (pc := 33) o (c_refuse R.2.1 e4) mt_X3_refuse mv_X3_refuse lk_X3_55 rfl rfl rfl (by decide) rfl (Nat.le_of_ble_eq_true rfl) dX3_takeNumber_33 ?_
    exact g_iret o ρ dX3_takeNumber_36 ⟨_, rfl, Or.inr ⟨if_neg y, rfl, rfl⟩⟩
  refine g_aload_n (pc := 0) o dX3_takeNumber_0 rfl ?_
  refine g_getIE (pc := 1) o 4 rfl rfl rfl inX3 (by decide) lf_X3_40 (e4) dX3_takeNumber_1 ?_
  refine g_iconst (pc := 4) o dX3_takeNumber_4 (-1) rfl ?_
  refine g_ic_ne (pc := 5) o 32 dX3_takeNumber_5 (by decide) (fun c5 => ?_) (fun c5 => ?_)
  · skip
    exact absurd rfl c5
  · skip
    refine g_aload_n (pc := 8) o dX3_takeNumber_8 rfl ?_
    refine g_getIE (pc := 9) o 5 rfl rfl rfl inX3 (by decide) lf_X3_52 (R.1) dX3_takeNumber_9 ?_
    refine g_iconst (pc := 12) o dX3_takeNumber_12 2 rfl ?_
    refine g_ic_ne (pc := 13) o 32 dX3_takeNumber_13 (by decide) (fun c13 => ?_) (fun c13 => ?_)
    · skip
      exact bad (fun y => c13 (by rw [y.1]; rfl))
    · skip
      have y2 := (nI_eq (a := srF f n t.1) (b := 2) (by omega) (by decide)).mp c13
      have ev : vcF f n t = min (vaF f t) 10000 := by unfold vcF; rw [if_pos y2]
      refine g_aload_n (pc := 16) o dX3_takeNumber_16 rfl ?_
      refine g_getIE (pc := 17) o 8 rfl rfl rfl inX3 (by decide) lf_X3_68 (R.2.2.2) dX3_takeNumber_17 ?_
      refine g_iload_n (pc := 20) o dX3_takeNumber_20 rfl ?_
      refine g_ic_lt (pc := 21) o 32 dX3_takeNumber_21 (by decide) (fun c21 => ?_) (fun c21 => ?_)
      · skip
        have w := (nI_ltI (by omega) (by omega)).mp c21
        exact bad (fun y => by have := y.2.1; omega)
      · skip
        have w := mt (nI_ltI (a := vcF f n t) (b := lo) (by omega) (by omega)).mpr c21
        refine g_aload_n (pc := 24) o dX3_takeNumber_24 rfl ?_
        refine g_getIE (pc := 25) o 8 rfl rfl rfl inX3 (by decide) lf_X3_68 (R.2.2.2) dX3_takeNumber_25 ?_
        refine g_iload_n (pc := 28) o dX3_takeNumber_28 rfl ?_
        refine g_ic_le (pc := 29) o 37 dX3_takeNumber_29 (by decide) (fun c29 => ?_) (fun c29 => ?_)
        · skip
          have w2 := (nI_leI (by omega) (by omega)).mp c29
          have ev2 : vcF f n t = vaF f t := by omega
          refine g_aload_n (pc := 37) o dX3_takeNumber_37 rfl ?_
          refine g_getIE (pc := 38) o 8 rfl rfl rfl inX3 (by decide) lf_X3_68 (R.2.2.2) dX3_takeNumber_38 ?_
          refine g_istore_n (pc := 41) o dX3_takeNumber_41 (by decide) ?_
          show ca_G Γ 4 _ _ [_, _, _, _] _
          refine g_aload_n (pc := 42) o dX3_takeNumber_42 rfl ?_
          refine g_callVQv (pc := 43) o (c_advance T t.2 ok.2 R.2.2.1) mt_X3_advance mv_X3_advance lk_X3_46 rfl rfl rfl (by decide) rfl (Nat.le_of_ble_eq_true rfl) dX3_takeNumber_43 ?_
          rintro h2 u
          obtain ⟨u1, u2⟩ := u
          refine g_iload_n (pc := 46) o dX3_takeNumber_46 rfl ?_
          exact g_iret o ρ dX3_takeNumber_47 ⟨_, rfl, Or.inl ⟨vaF f t, if_pos ⟨y2, by omega, by omega⟩, by rw [ev2], u1, u2⟩⟩
        · skip
          have w2 := mt (nI_leI (a := vcF f n t) (b := hi) (by omega) (by omega)).mpr c29
          exact bad (fun y => by have := y.2.2; omega)
set_option maxRecDepth 100000 in
set_option maxHeartbeats 400000 in
theorem c_takeNumX {h : Mem} (e4 : ¬ h.1 30 4 = -1) (x y : Int32) : Ct yX3_takeNumber cX3_takeNumber 4 (some .int) 2 43 [.ref 30, .int x, .int y] h (Ei 0 h) := by
  refine Ct.of (by decide) (Nat.le_of_ble_eq_true rfl) (fun Γ o ρ => ?_)
  show ca_G Γ 4 _ _ [_, _, _, _] _
  refine g_aload_n (pc := 0) o dX3_takeNumber_0 rfl ?_
  refine g_getI (pc := 1) o 4 rfl rfl rfl inX3 (by decide) lf_X3_40 dX3_takeNumber_1 ?_
  refine g_iconst (pc := 4) o dX3_takeNumber_4 (-1) rfl ?_
  refine g_ic_ne (pc := 5) o 32 dX3_takeNumber_5 (by decide) (fun c5 => ?_) (fun c5 => ?_)
  · skip
    refine g_aload_n (pc := 32) o dX3_takeNumber_32 rfl ?_
    refine g_callVi (pc := 33) o (c_refuseX e4) mt_X3_refuse mv_X3_refuse lk_X3_55 rfl rfl rfl (by decide) rfl (Nat.le_of_ble_eq_true rfl) dX3_takeNumber_33 ?_
    exact g_iret o ρ dX3_takeNumber_36 (Ei.mk rfl rfl)
  · skip
    exact absurd c5 e4
set_option maxRecDepth 100000 in
set_option maxHeartbeats 400000 in
theorem c_kindText0 {h : Mem} : Ct yX3_kindText cX3_kindText 1 (some (.object "java/lang/String")) 0 0 [.int (nI 0)] h (Ea (1000 + (2 + 0)) h) := by
  refine Ct.of (by decide) (Nat.le_of_ble_eq_true rfl) (fun Γ o ρ => ?_)
  show ca_G Γ 1 _ _ [_] _
  refine g_iload_n (pc := 0) o dX3_kindText_0 rfl ?_
  refine g_tabIn (pc := 1) o 40 dX3_kindText_1 (by decide) (by decide) rfl (by decide) ?_
  refine g_ldcS (pc := 40) (i := 2) o rfl dX3_kindText_40 ?_
  exact g_aret o ρ dX3_kindText_42 ⟨rfl, rfl⟩
set_option maxRecDepth 100000 in
set_option maxHeartbeats 400000 in
theorem c_kindText1 {h : Mem} : Ct yX3_kindText cX3_kindText 1 (some (.object "java/lang/String")) 0 0 [.int (nI 1)] h (Ea (1000 + (2 + 1)) h) := by
  refine Ct.of (by decide) (Nat.le_of_ble_eq_true rfl) (fun Γ o ρ => ?_)
  show ca_G Γ 1 _ _ [_] _
  refine g_iload_n (pc := 0) o dX3_kindText_0 rfl ?_
  refine g_tabIn (pc := 1) o 43 dX3_kindText_1 (by decide) (by decide) rfl (by decide) ?_
  refine g_ldcS (pc := 43) (i := 3) o rfl dX3_kindText_43 ?_
  exact g_aret o ρ dX3_kindText_45 ⟨rfl, rfl⟩
set_option maxRecDepth 100000 in
set_option maxHeartbeats 400000 in
theorem c_kindText2 {h : Mem} : Ct yX3_kindText cX3_kindText 1 (some (.object "java/lang/String")) 0 0 [.int (nI 2)] h (Ea (1000 + (2 + 2)) h) := by
  refine Ct.of (by decide) (Nat.le_of_ble_eq_true rfl) (fun Γ o ρ => ?_)
  show ca_G Γ 1 _ _ [_] _
  refine g_iload_n (pc := 0) o dX3_kindText_0 rfl ?_
  refine g_tabIn (pc := 1) o 46 dX3_kindText_1 (by decide) (by decide) rfl (by decide) ?_
  refine g_ldcS (pc := 46) (i := 4) o rfl dX3_kindText_46 ?_
  exact g_aret o ρ dX3_kindText_48 ⟨rfl, rfl⟩
set_option maxRecDepth 100000 in
set_option maxHeartbeats 400000 in
theorem c_kindText3 {h : Mem} : Ct yX3_kindText cX3_kindText 1 (some (.object "java/lang/String")) 0 0 [.int (nI 3)] h (Ea (1000 + (2 + 3)) h) := by
  refine Ct.of (by decide) (Nat.le_of_ble_eq_true rfl) (fun Γ o ρ => ?_)
  show ca_G Γ 1 _ _ [_] _
  refine g_iload_n (pc := 0) o dX3_kindText_0 rfl ?_
  refine g_tabIn (pc := 1) o 49 dX3_kindText_1 (by decide) (by decide) rfl (by decide) ?_
  refine g_ldcS (pc := 49) (i := 5) o rfl dX3_kindText_49 ?_
  exact g_aret o ρ dX3_kindText_51 ⟨rfl, rfl⟩
set_option maxRecDepth 100000 in
set_option maxHeartbeats 400000 in
theorem c_kindText4 {h : Mem} : Ct yX3_kindText cX3_kindText 1 (some (.object "java/lang/String")) 0 0 [.int (nI 4)] h (Ea (1000 + (2 + 4)) h) := by
  refine Ct.of (by decide) (Nat.le_of_ble_eq_true rfl) (fun Γ o ρ => ?_)
  show ca_G Γ 1 _ _ [_] _
  refine g_iload_n (pc := 0) o dX3_kindText_0 rfl ?_
  refine g_tabIn (pc := 1) o 52 dX3_kindText_1 (by decide) (by decide) rfl (by decide) ?_
  refine g_ldcS (pc := 52) (i := 6) o rfl dX3_kindText_52 ?_
  exact g_aret o ρ dX3_kindText_54 ⟨rfl, rfl⟩
set_option maxRecDepth 100000 in
set_option maxHeartbeats 400000 in
theorem c_kindText5 {h : Mem} : Ct yX3_kindText cX3_kindText 1 (some (.object "java/lang/String")) 0 0 [.int (nI 5)] h (Ea (1000 + (2 + 5)) h) := by
  refine Ct.of (by decide) (Nat.le_of_ble_eq_true rfl) (fun Γ o ρ => ?_)
  show ca_G Γ 1 _ _ [_] _
  refine g_iload_n (pc := 0) o dX3_kindText_0 rfl ?_
  refine g_tabIn (pc := 1) o 55 dX3_kindText_1 (by decide) (by decide) rfl (by decide) ?_
  refine g_ldcS (pc := 55) (i := 7) o rfl dX3_kindText_55 ?_
  exact g_aret o ρ dX3_kindText_57 ⟨rfl, rfl⟩
set_option maxRecDepth 100000 in
set_option maxHeartbeats 400000 in
theorem c_kindText6 {h : Mem} : Ct yX3_kindText cX3_kindText 1 (some (.object "java/lang/String")) 0 0 [.int (nI 6)] h (Ea (1000 + (2 + 6)) h) := by
  refine Ct.of (by decide) (Nat.le_of_ble_eq_true rfl) (fun Γ o ρ => ?_)
  show ca_G Γ 1 _ _ [_] _
  refine g_iload_n (pc := 0) o dX3_kindText_0 rfl ?_
  refine g_tabOut (pc := 1) o 58 dX3_kindText_1 (by decide) (by decide) ?_
  refine g_ldcS (pc := 58) (i := 8) o rfl dX3_kindText_58 ?_
  exact g_aret o ρ dX3_kindText_60 ⟨rfl, rfl⟩
theorem c_kindText {h : Mem} (k : Nat) (hk : k < 7) : Ct yX3_kindText cX3_kindText 1 (some (.object "java/lang/String")) 0 0 [.int (nI k)] h (Ea (1000 + (2 + k)) h) := by
  rcases (by omega : k = 0 ∨ k = 1 ∨ k = 2 ∨ k = 3 ∨ k = 4 ∨ k = 5 ∨ k = 6) with rfl | rfl | rfl | rfl | rfl | rfl | rfl
  · exact c_kindText0
  · exact c_kindText1
  · exact c_kindText2
  · exact c_kindText3
  · exact c_kindText4
  · exact c_kindText5
  · exact c_kindText6
set_option maxRecDepth 100000 in
set_option maxHeartbeats 400000 in
theorem lp_kow {Γ : Fr} (o : ca_O Γ cX3_kindOfWord 2 RX3 6 128) {Pr : Option Value → Mem → Prop} (ρ : ca_R Γ (some .int) Pr) {h : Mem} {f : Nat → Int32} {n : Nat} (T : TP h f n) {t : Nat × Nat} (R : RT h f n t) (ok : tkO n t) (z : Option Nat) (hp : Pr (some (.int (ogV z))) h) : ∀ k, k ≤ 7 → ∀ (xk : Int32), xk = nI k → fnF (kdB f t) (7 - k) k = z → ca_G Γ 2 h 2 [some (.ref 30), some (.int xk)] [] := by
  have s4 := sr_4 f n t.1
  refine downI 7 (fun k hk ih => ?_)
  rintro xk rfl ez
  refine g_iload_n (pc := 2) o dX3_kindOfWord_2 rfl ?_
  refine g_bipush (pc := 3) o dX3_kindOfWord_3 7 rfl ?_
  refine g_ic_ge (pc := 5) o 35 dX3_kindOfWord_5 (by decide) (fun c5 => ?_) (fun c5 => ?_)
  · skip
    have q : k = 7 := ge8 (n := 7) (by decide) (by omega) c5
    subst q
    have ez : none = z := ez
    subst ez
    refine g_iconst (pc := 35) o dX3_kindOfWord_35 (-1) rfl ?_
    exact g_iret o ρ dX3_kindOfWord_36 hp
  · skip
    have q : k < 7 := lt8 (n := 7) (by decide) (by omega) c5
    rw [show 7 - k = (7 - (k + 1)) + 1 by omega, fnF_s] at ez
    refine g_aload_n (pc := 8) o dX3_kindOfWord_8 rfl ?_
    refine g_getIE (pc := 9) o 5 rfl rfl rfl inX3 (by decide) lf_X3_52 (R.1) dX3_kindOfWord_9 ?_
    refine g_iconst (pc := 12) o dX3_kindOfWord_12 1 rfl ?_
    refine g_ic_ne (pc := 13) o 29 dX3_kindOfWord_13 (by decide) (fun c13 => ?_) (fun c13 => ?_)
    · skip
      have y : ¬ srF f n t.1 = 1 := fun y => c13 (by rw [y]; rfl)
      rw [if_neg (show ¬ kdB f t k = true from fun u => y (wd_sr ok (show 2 + k < 12 by omega) (of_decide_eq_true u)))] at ez
      refine g_iinc (pc := 29) o dX3_kindOfWord_29 rfl 1 rfl (by decide) ?_
      show ca_G Γ 2 _ _ [_, _] _
      refine g_goto (pc := 32) o 2 dX3_kindOfWord_32 (by decide) ?_
      exact ih q _ (nI_1 k) ez
    · skip
      refine g_aload_n (pc := 16) o dX3_kindOfWord_16 rfl ?_
      refine g_iload_n (pc := 17) o dX3_kindOfWord_17 rfl ?_
      refine g_callSa (pc := 18) o (c_kindText k q) mt_X3_kindText ms_X3_kindText lk_X3_93 rfl (by decide) rfl (Nat.le_of_ble_eq_true rfl) dX3_kindOfWord_18 ?_
      refine g_callVi (pc := 21) o (c_itt T R ok (2 + k) (by omega)) mt_X3_isTokenText mv_X3_isTokenText lk_X3_97 rfl rfl rfl (by decide) rfl (Nat.le_of_ble_eq_true rfl) dX3_kindOfWord_21 ?_
      refine g_if_eq (pc := 24) o 29 dX3_kindOfWord_24 (by decide) (fun c24 => ?_) (fun c24 => ?_)
      · skip
        have w := bI_0.mp c24
        rw [if_neg (show ¬ kdB f t k = true from fun u => w (of_decide_eq_true u))] at ez
        refine g_iinc (pc := 29) o dX3_kindOfWord_29 rfl 1 rfl (by decide) ?_
        show ca_G Γ 2 _ _ [_, _] _
        refine g_goto (pc := 32) o 2 dX3_kindOfWord_32 (by decide) ?_
        exact ih q _ (nI_1 k) ez
      · skip
        have w := bI_n0.mp c24
        rw [if_pos (show kdB f t k = true from decide_eq_true w)] at ez
        subst ez
        refine g_iload_n (pc := 27) o dX3_kindOfWord_27 rfl ?_
        exact g_iret o ρ dX3_kindOfWord_28 hp
set_option maxRecDepth 100000 in
set_option maxHeartbeats 400000 in
theorem c_kindOf {h : Mem} {f : Nat → Int32} {n : Nat} (T : TP h f n) {t : Nat × Nat} (R : RT h f n t) (ok : tkO n t) : Ct yX3_kindOfWord cX3_kindOfWord 2 (some .int) 6 128 [.ref 30] h (Ei (ogV (fnF (kdB f t) 7 0)) h) := by
  refine Ct.of (by decide) (Nat.le_of_ble_eq_true rfl) (fun Γ o ρ => ?_)
  show ca_G Γ 2 _ _ [_, _] _
  refine g_iconst (pc := 0) o dX3_kindOfWord_0 0 rfl ?_
  refine g_istore_n (pc := 1) o dX3_kindOfWord_1 (by decide) ?_
  show ca_G Γ 2 _ _ [_, _] _
  exact lp_kow o ρ T R ok _ ⟨rfl, rfl⟩ 0 (by omega) _ rfl rfl

