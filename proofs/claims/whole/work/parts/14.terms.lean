/-! ===== TERMS: the class's and the model's small methods ===== -/
def nT (s : Nat → Int32) : Nat := ca_n (s 189)
def okT (s : Nat → Int32) : Prop := nT s ≤ 12 ∧ s 189 = nI (nT s) ∧ (s 189).toInt = nT s
theorem okT_of {s : Nat → Int32} {n : Nat} (hn : n ≤ 12) (e : s 189 = nI n) : okT s ∧ nT s = n := by
  have e2 : nT s = n := by unfold nT ca_n; rw [e, nI_clamp (by omega)]
  refine ⟨?_, e2⟩
  unfold okT
  rw [e2, e, nI_toInt (by omega)]
  exact ⟨hn, rfl, rfl⟩
theorem SI.terms {s : Nat → Int32} (I : SI s) : okT s := by
  obtain ⟨n, hn, e, -⟩ := I.2.2.2.1
  exact (okT_of hn e).1
theorem tix (t w : Nat) : nI 190 + nI 7 * nI t + nI w = nI (190 + (t * 7 + w)) := by rw [pk_mul, nI_add, nI_add]; congr 1; omega
set_option maxRecDepth 100000 in
set_option maxHeartbeats 400000 in
theorem c_tsize {h : Mem} {s : Nat → Int32} (B : BR h 1 s) : Ct yX7_size cX7_size 1 (some .int) 0 0 [.ref 6] h (Ei (s 189) h) := by
  refine Ct.of (by decide) (Nat.le_of_ble_eq_true rfl) (fun Γ o ρ => ?_)
  refine g_aload_n (pc := 0) o dX7_size_0 rfl ?_
  refine g_getIE (pc := 1) o 1 rfl rfl rfl inX7 (by decide) lf_X7_15 (B.2.2.2.1) dX7_size_1 ?_
  exact g_iret o ρ dX7_size_4 (Ei.mk rfl rfl)
set_option maxRecDepth 100000 in
set_option maxHeartbeats 400000 in
theorem c_isTerm {h : Mem} {s : Nat → Int32} (B : BR h 1 s) (x : Int32) : Ct yX7_isTerm cX7_isTerm 2 (some .boolean) 0 0 [.ref 6, .int x] h (Ei (bI (0 ≤ x.toInt ∧ x.toInt < (s 189).toInt)) h) := by
  refine Ct.of (by decide) (Nat.le_of_ble_eq_true rfl) (fun Γ o ρ => ?_)
  refine g_iload_n (pc := 0) o dX7_isTerm_0 rfl ?_
  refine g_if_lt (pc := 1) o 16 dX7_isTerm_1 (by decide) (fun c1 => ?_) (fun c1 => ?_)
  · skip
    refine g_iconst (pc := 16) o dX7_isTerm_16 0 rfl ?_
    exact g_zret o ρ (by first | rfl | exact bI_b) dX7_isTerm_17 (Ei.mk (bI_f (by have := (lt0 x).mp c1; omega)) rfl)
  · skip
    have k1 := mt (lt0 x).mpr c1
    refine g_iload_n (pc := 4) o dX7_isTerm_4 rfl ?_
    refine g_aload_n (pc := 5) o dX7_isTerm_5 rfl ?_
    refine g_getIE (pc := 6) o 1 rfl rfl rfl inX7 (by decide) lf_X7_15 (B.2.2.2.1) dX7_isTerm_6 ?_
    refine g_ic_ge (pc := 9) o 16 dX7_isTerm_9 (by decide) (fun c9 => ?_) (fun c9 => ?_)
    · skip
      refine g_iconst (pc := 16) o dX7_isTerm_16 0 rfl ?_
      exact g_zret o ρ (by first | rfl | exact bI_b) dX7_isTerm_17 (Ei.mk (bI_f (by have := Int32.le_iff_toInt_le.mp c9; omega)) rfl)
    · skip
      refine g_iconst (pc := 12) o dX7_isTerm_12 1 rfl ?_
      refine g_goto (pc := 13) o 17 dX7_isTerm_13 (by decide) ?_
      exact g_zret o ρ (by first | rfl | exact bI_b) dX7_isTerm_17 (Ei.mk (bI_t (by have := mt Int32.le_iff_toInt_le.mpr c9; omega)) rfl)
set_option maxRecDepth 100000 in
set_option maxHeartbeats 400000 in
theorem c_tf {h : Mem} {s : Nat → Int32} (B : BR h 1 s) (t w : Nat) (ht : t < 12) (hw : w < 7) : Ct yX7_field cX7_field 3 (some .int) 0 0 [.ref 6, .int (nI t), .int (nI w)] h (Ei (tmF s t w) h) := by
  refine Ct.of (by decide) (Nat.le_of_ble_eq_true rfl) (fun Γ o ρ => ?_)
  refine g_aload_n (pc := 0) o dX7_field_0 rfl ?_
  refine g_getR (pc := 1) o 0 rfl rfl rfl inX7 (by decide) lf_X7_11 dX7_field_1 ?_
  refine g_iload_n (pc := 4) o dX7_field_4 rfl ?_
  refine g_bipush (pc := 5) o dX7_field_5 7 rfl ?_
  refine g_imul (pc := 7) o dX7_field_7 ?_
  refine g_iload_n (pc := 8) o dX7_field_8 rfl ?_
  refine g_iadd (pc := 9) o dX7_field_9 ?_
  refine n_ialdE (pc := 10) o (t * 7 + w) (ix t 7 w) rfl ((by omega)) (by decide) (B.2.2.2.2.1 (t * 7 + w) (by omega)) dX7_field_10 ?_
  exact g_iret o ρ dX7_field_11 (Ei.mk rfl rfl)
set_option maxRecDepth 100000 in
set_option maxHeartbeats 400000 in
theorem m_of {h : Mem} (t w : Nat) (ht : t < 12) (hw : w < 7) : Ct yX10_of cX10_of 3 (some .int) 0 0 [.ref 51, .int (nI t), .int (nI w)] h (Ei (tmF (h.1 52) t w) h) := by
  refine Ct.of (by decide) (Nat.le_of_ble_eq_true rfl) (fun Γ o ρ => ?_)
  refine g_aload_n (pc := 0) o dX10_of_0 rfl ?_
  refine g_getR (pc := 1) o 0 rfl rfl rfl inX10 (by decide) lf_X10_7 dX10_of_1 ?_
  refine g_sipush (pc := 4) o dX10_of_4 190 rfl ?_
  refine g_bipush (pc := 7) o dX10_of_7 7 rfl ?_
  refine g_iload_n (pc := 9) o dX10_of_9 rfl ?_
  refine g_imul (pc := 10) o dX10_of_10 ?_
  refine g_iadd (pc := 11) o dX10_of_11 ?_
  refine g_iload_n (pc := 12) o dX10_of_12 rfl ?_
  refine g_iadd (pc := 13) o dX10_of_13 ?_
  refine n_iald (pc := 14) o (190 + (t * 7 + w)) (tix t w) rfl ((by omega)) (by decide) dX10_of_14 ?_
  exact g_iret o ρ dX10_of_15 (Ei.mk rfl rfl)
set_option maxRecDepth 100000 in
set_option maxHeartbeats 400000 in
theorem m_isTerm {h : Mem} (ok : okT (h.1 52)) (x : Int32) : Ct yX10_isTerm cX10_isTerm 2 (some .boolean) 1 25 [.ref 51, .int x] h (Ei (bI (0 ≤ x.toInt ∧ x.toInt < (h.1 52 189).toInt)) h) := by
  refine Ct.of (by decide) (Nat.le_of_ble_eq_true rfl) (fun Γ o ρ => ?_)
  refine g_iload_n (pc := 0) o dX10_isTerm_0 rfl ?_
  refine g_i2l (pc := 1) o dX10_isTerm_1 ?_
  refine g_lconst (pc := 2) o dX10_isTerm_2 0 rfl ?_
  refine g_aload_n (pc := 3) o dX10_isTerm_3 rfl ?_
  refine g_getR (pc := 4) o 0 rfl rfl rfl inX10 (by decide) lf_X10_7 dX10_isTerm_4 ?_
  refine g_sipush (pc := 7) o dX10_isTerm_7 189 rfl ?_
  refine n_iald (pc := 10) o 189 (rfl) rfl ((by omega)) (by decide) dX10_isTerm_10 ?_
  refine g_iconst (pc := 11) o dX10_isTerm_11 1 rfl ?_
  refine g_isub (pc := 12) o dX10_isTerm_12 ?_
  refine g_i2l (pc := 13) o dX10_isTerm_13 ?_
  refine g_callSi (pc := 14) o (m_in x.toInt64 0 (h.1 52 189 - 1).toInt64 h) mt_X10_in ms_X10_in lk_X10_71 rfl (by decide) rfl (Nat.le_of_ble_eq_true rfl) dX10_isTerm_14 ?_
  exact g_zret o ρ (by first | rfl | exact bI_b) dX10_isTerm_17 (Ei.mk (in_dyn x (h.1 52 189) (by have := ok.2.2; omega)) rfl)
set_option maxRecDepth 100000 in
theorem lp_howMany {Γ : Fr} (o : ca_O Γ cX7_howManyOf 4 RX7 1 22) {Pr : Option Value → Mem → Prop} (ρ : ca_R Γ (some .int) Pr) {h : Mem} {s : Nat → Int32} (B : BR h 1 s) {n : Nat} (hn : n ≤ 12) (e : s 189 = nI n) (p : Int32) (hp : Pr (some (.int (nI (cntP s p n)))) h) : ∀ i, i ≤ n → ∀ xi a : Int32, xi = nI i → a = nI (cntP s p i) → ca_G Γ 4 h 4 [some (.ref 6), some (.int p), some (.int a), some (.int xi)] [] := by
  refine downI n (fun i hi ih => ?_)
  rintro xi a rfl rfl
  refine g_iload_n (pc := 4) o dX7_howManyOf_4 rfl ?_
  refine g_aload_n (pc := 5) o dX7_howManyOf_5 rfl ?_
  refine g_getIE (pc := 6) o 1 rfl rfl rfl inX7 (by decide) lf_X7_15 (B.2.2.2.1.trans e) dX7_howManyOf_6 ?_
  refine g_ic_ge (pc := 9) o 31 dX7_howManyOf_9 (by decide) (fun c9 => ?_) (fun c9 => ?_)
  · skip
    have e : i = n := ge8 (n := n) (by omega) (by omega) c9
    subst e
    refine g_iload_n (pc := 31) o dX7_howManyOf_31 rfl ?_
    exact g_iret o ρ dX7_howManyOf_32 hp
  · skip
    have e : i < n := lt8 (n := n) (by omega) (by omega) c9
    refine g_aload_n (pc := 12) o dX7_howManyOf_12 rfl ?_
    refine g_iload_n (pc := 13) o dX7_howManyOf_13 rfl ?_
    refine g_iconst (pc := 14) o dX7_howManyOf_14 1 rfl ?_
    refine g_callVi (pc := 15) o (c_tf B i 1 (by omega) (by decide)) mt_X7_field mv_X7_field lk_X7_19 rfl rfl rfl (by decide) rfl (Nat.le_of_ble_eq_true rfl) dX7_howManyOf_15 ?_
    refine g_iload_n (pc := 18) o dX7_howManyOf_18 rfl ?_
    refine g_ic_ne (pc := 19) o 25 dX7_howManyOf_19 (by decide) (fun c19 => ?_) (fun c19 => ?_)
    · skip
      refine g_iinc (pc := 25) o dX7_howManyOf_25 rfl 1 rfl (by decide) ?_
      refine g_goto (pc := 28) o 4 dX7_howManyOf_28 (by decide) ?_
      exact ih e _ _ (nI_1 i) (by rw [cntP, if_neg c19]; rfl)
    · skip
      refine g_iinc (pc := 22) o dX7_howManyOf_22 rfl 1 rfl (by decide) ?_
      refine g_iinc (pc := 25) o dX7_howManyOf_25 rfl 1 rfl (by decide) ?_
      refine g_goto (pc := 28) o 4 dX7_howManyOf_28 (by decide) ?_
      exact ih e _ _ (nI_1 i) (by rw [cntP, if_pos c19]; exact nI_1 _)
set_option maxRecDepth 100000 in
set_option maxHeartbeats 400000 in
theorem c_howManyOf {h : Mem} {s : Nat → Int32} (B : BR h 1 s) (ok : okT s) (p : Int32) : Ct yX7_howManyOf cX7_howManyOf 4 (some .int) 1 22 [.ref 6, .int p] h (Ei (nI (cntP s p (nT s))) h) := by
  refine Ct.of (by decide) (Nat.le_of_ble_eq_true rfl) (fun Γ o ρ => ?_)
  refine g_iconst (pc := 0) o dX7_howManyOf_0 0 rfl ?_
  refine g_istore_n (pc := 1) o dX7_howManyOf_1 (by decide) ?_
  refine g_iconst (pc := 2) o dX7_howManyOf_2 0 rfl ?_
  refine g_istore_n (pc := 3) o dX7_howManyOf_3 (by decide) ?_
  exact lp_howMany o ρ B ok.1 ok.2.1 p ⟨rfl, rfl⟩ 0 (by omega) 0 0 rfl rfl
set_option maxRecDepth 100000 in
theorem lp_termsOf {Γ : Fr} (o : ca_O Γ cX10_termsOf 4 RX10 1 22) {Pr : Option Value → Mem → Prop} (ρ : ca_R Γ (some .int) Pr) {h : Mem} {n : Nat} (hn : n ≤ 12) (e : h.1 52 189 = nI n) (p : Int32) (hp : Pr (some (.int (nI (cntP (h.1 52) p n)))) h) : ∀ i, i ≤ n → ∀ xi a : Int32, xi = nI i → a = nI (cntP (h.1 52) p i) → ca_G Γ 4 h 4 [some (.ref 51), some (.int p), some (.int a), some (.int xi)] [] := by
  refine downI n (fun i hi ih => ?_)
  rintro xi a rfl rfl
  refine g_iload_n (pc := 4) o dX10_termsOf_4 rfl ?_
  refine g_aload_n (pc := 5) o dX10_termsOf_5 rfl ?_
  refine g_getR (pc := 6) o 0 rfl rfl rfl inX10 (by decide) lf_X10_7 dX10_termsOf_6 ?_
  refine g_sipush (pc := 9) o dX10_termsOf_9 189 rfl ?_
  refine n_ialdE (pc := 12) o 189 (rfl) rfl ((by omega)) (by decide) (e) dX10_termsOf_12 ?_
  refine g_ic_ge (pc := 13) o 40 dX10_termsOf_13 (by decide) (fun c13 => ?_) (fun c13 => ?_)
  · skip
    have e : i = n := ge8 (n := n) (by omega) (by omega) c13
    subst e
    refine g_iload_n (pc := 40) o dX10_termsOf_40 rfl ?_
    exact g_iret o ρ dX10_termsOf_41 hp
  · skip
    have e : i < n := lt8 (n := n) (by omega) (by omega) c13
    refine g_iload_n (pc := 16) o dX10_termsOf_16 rfl ?_
    refine g_aload_n (pc := 17) o dX10_termsOf_17 rfl ?_
    refine g_iload_n (pc := 18) o dX10_termsOf_18 rfl ?_
    refine g_iconst (pc := 19) o dX10_termsOf_19 1 rfl ?_
    refine g_callVi (pc := 20) o (m_of i 1 (by omega) (by decide)) mt_X10_of mv_X10_of lk_X10_131 rfl rfl rfl (by decide) rfl (Nat.le_of_ble_eq_true rfl) dX10_termsOf_20 ?_
    refine g_iload_n (pc := 23) o dX10_termsOf_23 rfl ?_
    refine g_ic_ne (pc := 24) o 31 dX10_termsOf_24 (by decide) (fun c24 => ?_) (fun c24 => ?_)
    · skip
      refine g_iconst (pc := 31) o dX10_termsOf_31 0 rfl ?_
      refine g_iadd (pc := 32) o dX10_termsOf_32 ?_
      refine g_istore_n (pc := 33) o dX10_termsOf_33 (by decide) ?_
      refine g_iinc (pc := 34) o dX10_termsOf_34 rfl 1 rfl (by decide) ?_
      refine g_goto (pc := 37) o 4 dX10_termsOf_37 (by decide) ?_
      exact ih e _ _ (nI_1 i) (by rw [cntP, if_neg c24]; exact nI_add _ 0)
    · skip
      refine g_iconst (pc := 27) o dX10_termsOf_27 1 rfl ?_
      refine g_goto (pc := 28) o 32 dX10_termsOf_28 (by decide) ?_
      refine g_iadd (pc := 32) o dX10_termsOf_32 ?_
      refine g_istore_n (pc := 33) o dX10_termsOf_33 (by decide) ?_
      refine g_iinc (pc := 34) o dX10_termsOf_34 rfl 1 rfl (by decide) ?_
      refine g_goto (pc := 37) o 4 dX10_termsOf_37 (by decide) ?_
      exact ih e _ _ (nI_1 i) (by rw [cntP, if_pos c24]; exact nI_1 _)
set_option maxRecDepth 100000 in
set_option maxHeartbeats 400000 in
theorem m_termsOf {h : Mem} (ok : okT (h.1 52)) (p : Int32) : Ct yX10_termsOf cX10_termsOf 4 (some .int) 1 22 [.ref 51, .int p] h (Ei (nI (cntP (h.1 52) p (nT (h.1 52)))) h) := by
  refine Ct.of (by decide) (Nat.le_of_ble_eq_true rfl) (fun Γ o ρ => ?_)
  refine g_iconst (pc := 0) o dX10_termsOf_0 0 rfl ?_
  refine g_istore_n (pc := 1) o dX10_termsOf_1 (by decide) ?_
  refine g_iconst (pc := 2) o dX10_termsOf_2 0 rfl ?_
  refine g_istore_n (pc := 3) o dX10_termsOf_3 (by decide) ?_
  exact lp_termsOf o ρ ok.1 ok.2.1 p ⟨rfl, rfl⟩ 0 (by omega) 0 0 rfl rfl
theorem cntP_le (s : Nat → Int32) (p : Int32) : ∀ n, cntP s p n ≤ n
  | 0 => Nat.le_refl 0
  | n + 1 => by
    have := cntP_le s p n
    rw [cntP]
    split <;> omega
abbrev rooF (s : Nat → Int32) (p : Int32) : Prop := (s 189).toInt < 12 ∧ cntP s p (nT s) < 5
set_option maxRecDepth 100000 in
set_option maxHeartbeats 400000 in
theorem c_hasRoomFor {h : Mem} {s : Nat → Int32} (B : BR h 1 s) (ok : okT s) (p : Int32) : Ct yX7_hasRoomFor cX7_hasRoomFor 2 (some .boolean) 2 45 [.ref 6, .int p] h (Ei (bI (rooF s p)) h) := by
  refine Ct.of (by decide) (Nat.le_of_ble_eq_true rfl) (fun Γ o ρ => ?_)
  have hc := cntP_le s p (nT s)
  have h1 := ok.1
  refine g_aload_n (pc := 0) o dX7_hasRoomFor_0 rfl ?_
  refine g_getIE (pc := 1) o 1 rfl rfl rfl inX7 (by decide) lf_X7_15 (B.2.2.2.1) dX7_hasRoomFor_1 ?_
  refine g_bipush (pc := 4) o dX7_hasRoomFor_4 12 rfl ?_
  refine g_ic_ge (pc := 6) o 22 dX7_hasRoomFor_6 (by decide) (fun c6 => ?_) (fun c6 => ?_)
  · skip
    refine g_iconst (pc := 22) o dX7_hasRoomFor_22 0 rfl ?_
    exact g_zret o ρ (by first | rfl | exact bI_b) dX7_hasRoomFor_23 (Ei.mk (bI_f (fun z => by have := (geN (s 189) 12 (by decide)).mp c6; have := z.1; omega)) rfl)
  · skip
    have k1 := mt (geN (s 189) 12 (by decide)).mpr c6
    refine g_aload_n (pc := 9) o dX7_hasRoomFor_9 rfl ?_
    refine g_iload_n (pc := 10) o dX7_hasRoomFor_10 rfl ?_
    refine g_callVi (pc := 11) o (c_howManyOf B ok p) mt_X7_howManyOf mv_X7_howManyOf lk_X7_23 rfl rfl rfl (by decide) rfl (Nat.le_of_ble_eq_true rfl) dX7_hasRoomFor_11 ?_
    refine g_iconst (pc := 14) o dX7_hasRoomFor_14 5 rfl ?_
    refine g_ic_ge (pc := 15) o 22 dX7_hasRoomFor_15 (by decide) (fun c15 => ?_) (fun c15 => ?_)
    · skip
      have k2 := (nI_leI (a := 5) (by decide) (by omega)).mp c15
      refine g_iconst (pc := 22) o dX7_hasRoomFor_22 0 rfl ?_
      exact g_zret o ρ (by first | rfl | exact bI_b) dX7_hasRoomFor_23 (Ei.mk (bI_f (fun z => by have := z.2; omega)) rfl)
    · skip
      have k2 := mt (nI_leI (a := 5) (b := cntP s p (nT s)) (by decide) (by omega)).mpr c15
      refine g_iconst (pc := 18) o dX7_hasRoomFor_18 1 rfl ?_
      refine g_goto (pc := 19) o 23 dX7_hasRoomFor_19 (by decide) ?_
      exact g_zret o ρ (by first | rfl | exact bI_b) dX7_hasRoomFor_23 (Ei.mk (bI_t ⟨by omega, by omega⟩) rfl)
set_option maxRecDepth 100000 in
set_option maxHeartbeats 400000 in
theorem m_isRoomFor {h : Mem} (ok : okT (h.1 52)) (p : Int32) : Ct yX10_isRoomFor cX10_isRoomFor 2 (some .boolean) 2 45 [.ref 51, .int p] h (Ei (bI (rooF (h.1 52) p)) h) := by
  refine Ct.of (by decide) (Nat.le_of_ble_eq_true rfl) (fun Γ o ρ => ?_)
  have hc := cntP_le (h.1 52) p (nT (h.1 52))
  have h1 := ok.1
  refine g_aload_n (pc := 0) o dX10_isRoomFor_0 rfl ?_
  refine g_getR (pc := 1) o 0 rfl rfl rfl inX10 (by decide) lf_X10_7 dX10_isRoomFor_1 ?_
  refine g_sipush (pc := 4) o dX10_isRoomFor_4 189 rfl ?_
  refine n_iald (pc := 7) o 189 (rfl) rfl ((by omega)) (by decide) dX10_isRoomFor_7 ?_
  refine g_bipush (pc := 8) o dX10_isRoomFor_8 12 rfl ?_
  refine g_ic_ge (pc := 10) o 26 dX10_isRoomFor_10 (by decide) (fun c10 => ?_) (fun c10 => ?_)
  · skip
    refine g_iconst (pc := 26) o dX10_isRoomFor_26 0 rfl ?_
    exact g_zret o ρ (by first | rfl | exact bI_b) dX10_isRoomFor_27 (Ei.mk (bI_f (fun z => by have := (geN (h.1 52 189) 12 (by decide)).mp c10; have := z.1; omega)) rfl)
  · skip
    have k1 := mt (geN (h.1 52 189) 12 (by decide)).mpr c10
    refine g_aload_n (pc := 13) o dX10_isRoomFor_13 rfl ?_
    refine g_iload_n (pc := 14) o dX10_isRoomFor_14 rfl ?_
    refine g_callVi (pc := 15) o (m_termsOf ok p) mt_X10_termsOf mv_X10_termsOf lk_X10_134 rfl rfl rfl (by decide) rfl (Nat.le_of_ble_eq_true rfl) dX10_isRoomFor_15 ?_
    refine g_iconst (pc := 18) o dX10_isRoomFor_18 5 rfl ?_
    refine g_ic_ge (pc := 19) o 26 dX10_isRoomFor_19 (by decide) (fun c19 => ?_) (fun c19 => ?_)
    · skip
      have k2 := (nI_leI (a := 5) (by decide) (by omega)).mp c19
      refine g_iconst (pc := 26) o dX10_isRoomFor_26 0 rfl ?_
      exact g_zret o ρ (by first | rfl | exact bI_b) dX10_isRoomFor_27 (Ei.mk (bI_f (fun z => by have := z.2; omega)) rfl)
    · skip
      have k2 := mt (nI_leI (a := 5) (b := cntP (h.1 52) p (nT (h.1 52))) (by decide) (by omega)).mpr c19
      refine g_iconst (pc := 22) o dX10_isRoomFor_22 1 rfl ?_
      refine g_goto (pc := 23) o 27 dX10_isRoomFor_23 (by decide) ?_
      exact g_zret o ρ (by first | rfl | exact bI_b) dX10_isRoomFor_27 (Ei.mk (bI_t ⟨by omega, by omega⟩) rfl)
/-! fields of a term are numbers -/
def okTm (s : Nat → Int32) : Prop := ∀ t, t < 12 → ∃ k p q a b c d, k < 7 ∧ p < 6 ∧ q < 8 ∧ a ≤ b ∧ b < 24 ∧ c ≤ d ∧ d < 30 ∧ tmF s t 0 = nI k ∧ tmF s t 1 = nI p ∧ tmF s t 2 = nI q ∧ tmF s t 3 = nI a ∧ tmF s t 4 = nI b ∧ tmF s t 5 = nI c ∧ tmF s t 6 = nI d
theorem SI.tm {s : Nat → Int32} (I : SI s) : okTm s := I.2.2.2.2.1
def askN (k : Nat) : Nat := ([0, 0, 1, 2, 0, 0, 3] : List Nat).getD k 0
def askT (s : Nat → Int32) (t : Nat) : Nat := askN (ca_n (tmF s t 0))
theorem asked_N : ∀ k, k < 7 → ca_asked.getD k 0 = nI (askN k) := by decide +kernel
theorem askN_le : ∀ k, k < 7 → askN k ≤ 3 := by decide
set_option maxRecDepth 100000 in
set_option maxHeartbeats 400000 in
theorem c_asked {h : Mem} {s : Nat → Int32} (B : BR h 1 s) (T : okTm s) (t : Nat) (ht : t < 12) : Ct yX7_asked cX7_asked 2 (some .int) 1 22 [.ref 6, .int (nI t)] h (Ei (nI (askT s t)) h) := by
  refine Ct.of (by decide) (Nat.le_of_ble_eq_true rfl) (fun Γ o ρ => ?_)
  obtain ⟨k, _, _, _, _, _, _, hk, -, -, -, -, -, -, e0, -⟩ := T t ht
  have ek : ca_n (nI k) = k := nI_clamp (by omega)
  refine g_asked (pc := 0) o lf_X7_34 dX7_asked_0 ?_
  refine g_aload_n (pc := 3) o dX7_asked_3 rfl ?_
  refine g_iload_n (pc := 4) o dX7_asked_4 rfl ?_
  refine g_iconst (pc := 5) o dX7_asked_5 0 rfl ?_
  refine g_callVi (pc := 6) o (c_tf B t 0 ht (by decide)) mt_X7_field mv_X7_field lk_X7_19 rfl rfl rfl (by decide) rfl (Nat.le_of_ble_eq_true rfl) dX7_asked_6 ?_
  refine n_asked (pc := 9) o k (e0) ((by omega)) dX7_asked_9 ?_
  exact g_iret o ρ dX7_asked_10 (Ei.mk (by unfold askT; rw [e0, ek]; exact asked_N k hk) rfl)
set_option maxRecDepth 100000 in
set_option maxHeartbeats 400000 in
theorem m_asked {h : Mem} (T : okTm (h.1 52)) (t : Nat) (ht : t < 12) : Ct yX10_asked cX10_asked 3 (some .int) 1 22 [.ref 51, .int (nI t)] h (Ei (nI (askT (h.1 52) t)) h) := by
  refine Ct.of (by decide) (Nat.le_of_ble_eq_true rfl) (fun Γ o ρ => ?_)
  obtain ⟨k, _, _, _, _, _, _, hk, -, -, -, -, -, -, e0, -⟩ := T t ht
  have ek : ca_n (nI k) = k := nI_clamp (by omega)
  have ea : askT (h.1 52) t = askN k := by unfold askT; rw [e0, ek]
  rw [ea] at ρ
  have cs : ∀ k, k < 7 → (nI k = 2 → askN k = 1) ∧ (nI k = 3 → askN k = 2) ∧ (nI k = 6 → askN k = 3) ∧ (¬ nI k = 2 → ¬ nI k = 3 → ¬ nI k = 6 → askN k = 0) := by decide +kernel
  have cs := cs k hk
  have mo : Ct yX10_of cX10_of 3 (some .int) 0 0 [.ref 51, .int (nI t), .int (nI 0)] h (Ei (nI k) h) := by rw [← e0]; exact m_of t 0 ht (by decide)
  refine g_aload_n (pc := 0) o dX10_asked_0 rfl ?_
  refine g_iload_n (pc := 1) o dX10_asked_1 rfl ?_
  refine g_iconst (pc := 2) o dX10_asked_2 0 rfl ?_
  refine g_callVi (pc := 3) o (mo) mt_X10_of mv_X10_of lk_X10_131 rfl rfl rfl (by decide) rfl (Nat.le_of_ble_eq_true rfl) dX10_asked_3 ?_
  refine g_istore_n (pc := 6) o dX10_asked_6 (by decide) ?_
  refine g_iload_n (pc := 7) o dX10_asked_7 rfl ?_
  refine g_iconst (pc := 8) o dX10_asked_8 2 rfl ?_
  refine g_ic_ne (pc := 9) o 16 dX10_asked_9 (by decide) (fun c9 => ?_) (fun c9 => ?_)
  · skip
    refine g_iload_n (pc := 16) o dX10_asked_16 rfl ?_
    refine g_iconst (pc := 17) o dX10_asked_17 3 rfl ?_
    refine g_ic_ne (pc := 18) o 25 dX10_asked_18 (by decide) (fun c18 => ?_) (fun c18 => ?_)
    · skip
      refine g_iload_n (pc := 25) o dX10_asked_25 rfl ?_
      refine g_bipush (pc := 26) o dX10_asked_26 6 rfl ?_
      refine g_ic_ne (pc := 28) o 35 dX10_asked_28 (by decide) (fun c28 => ?_) (fun c28 => ?_)
      · skip
        refine g_iconst (pc := 35) o dX10_asked_35 0 rfl ?_
        exact g_iret o ρ dX10_asked_36 (Ei.mk (by rw [cs.2.2.2 c9 c18 c28]; rfl) rfl)
      · skip
        refine g_iconst (pc := 31) o dX10_asked_31 3 rfl ?_
        refine g_goto (pc := 32) o 36 dX10_asked_32 (by decide) ?_
        exact g_iret o ρ dX10_asked_36 (Ei.mk (by rw [cs.2.2.1 c28]; rfl) rfl)
    · skip
      refine g_iconst (pc := 21) o dX10_asked_21 2 rfl ?_
      refine g_goto (pc := 22) o 36 dX10_asked_22 (by decide) ?_
      exact g_iret o ρ dX10_asked_36 (Ei.mk (by rw [cs.2.1 c18]; rfl) rfl)
  · skip
    refine g_iconst (pc := 12) o dX10_asked_12 1 rfl ?_
    refine g_goto (pc := 13) o 36 dX10_asked_13 (by decide) ?_
    exact g_iret o ρ dX10_asked_36 (Ei.mk (by rw [cs.1 c9]; rfl) rfl)

