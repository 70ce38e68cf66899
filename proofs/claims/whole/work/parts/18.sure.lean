/-! ===== SURETIES ===== -/
theorem BR.rm {h : Mem} {s : Nat → Int32} (B : BR h 1 s) (j : Nat) (hj : j < 5) : h.1 9 j = s (285 + j) := B.2.2.2.2.2.2.2.1 j hj
theorem BR.bk {h : Mem} {s : Nat → Int32} (B : BR h 1 s) (j : Nat) (hj : j < 5) : h.1 10 j = s (290 + j) := B.2.2.2.2.2.2.2.2.1 j hj
theorem BR.gv {h : Mem} {s : Nat → Int32} (B : BR h 1 s) (j : Nat) (hj : j < 30) : h.1 11 j = s (295 + j) := B.2.2.2.2.2.2.2.2.2.1 j hj
theorem BR.bl {h : Mem} {s : Nat → Int32} (B : BR h 1 s) (j : Nat) (hj : j < 6) : h.1 12 j = s (325 + j) := B.2.2.2.2.2.2.2.2.2.2.1 j hj
theorem BR.hr {h : Mem} {s : Nat → Int32} (B : BR h 1 s) (j : Nat) (hj : j < 6) : h.1 13 j = s (331 + j) := B.2.2.2.2.2.2.2.2.2.2.2 j hj
theorem BR.sp {h : Mem} {s : Nat → Int32} (B : BR h 1 s) (j : Nat) (hj : j < 10) : h.1 14 j = s (274 + j) := B.2.2.2.2.2.1 j hj
def gvF (s : Nat → Int32) (k p : Nat) : Int32 := s (295 + (k * 6 + p))
def gByF (s : Nat → Int32) (k : Nat) : Nat → Int32
  | 0 => 0
  | n + 1 => gByF s k n + gvF s k n
def gForF (s : Nat → Int32) (p : Nat) : Nat → Int32
  | 0 => 0
  | n + 1 => gForF s p n + gvF s n p
set_option maxRecDepth 100000 in
set_option maxHeartbeats 400000 in
theorem c_givenOf {h : Mem} {s : Nat → Int32} (B : BR h 1 s) (k p : Nat) (hk : k < 5) (hp : p < 6) : Ct yX6_givenOf cX6_givenOf 3 (some .int) 0 0 [.ref 8, .int (nI k), .int (nI p)] h (Ei (gvF s k p) h) := by
  refine Ct.of (by decide) (Nat.le_of_ble_eq_true rfl) (fun Γ o ρ => ?_)
  show ca_G Γ 3 _ _ [_, _, _] _
  refine g_aload_n (pc := 0) o dX6_givenOf_0 rfl ?_
  refine g_getR (pc := 1) o 2 rfl rfl rfl inX6 (by decide) lf_X6_18 dX6_givenOf_1 ?_
  refine g_iload_n (pc := 4) o dX6_givenOf_4 rfl ?_
  refine g_bipush (pc := 5) o dX6_givenOf_5 6 rfl ?_
  refine g_imul (pc := 7) o dX6_givenOf_7 ?_
  refine g_iload_n (pc := 8) o dX6_givenOf_8 rfl ?_
  refine g_iadd (pc := 9) o dX6_givenOf_9 ?_
  refine n_ialdE (pc := 10) o (k * 6 + p) (ix k 6 p) rfl ((by omega)) (by decide) (B.gv (k * 6 + p) (by omega)) dX6_givenOf_10 ?_
  exact g_iret o ρ dX6_givenOf_11 (Ei.mk rfl rfl)
theorem gix (k p : Nat) : nI 295 + nI 6 * nI k + nI p = nI (295 + (k * 6 + p)) := by rw [pk_mul, nI_add, nI_add]; congr 1; omega
set_option maxRecDepth 100000 in
set_option maxHeartbeats 400000 in
theorem m_given {h : Mem} (k p : Nat) (hk : k < 5) (hp : p < 6) : Ct yX10_given cX10_given 3 (some .int) 0 0 [.ref 51, .int (nI k), .int (nI p)] h (Ei (gvF (h.1 52) k p) h) := by
  refine Ct.of (by decide) (Nat.le_of_ble_eq_true rfl) (fun Γ o ρ => ?_)
  show ca_G Γ 3 _ _ [_, _, _] _
  refine g_aload_n (pc := 0) o dX10_given_0 rfl ?_
  refine g_getR (pc := 1) o 0 rfl rfl rfl inX10 (by decide) lf_X10_7 dX10_given_1 ?_
  refine g_sipush (pc := 4) o dX10_given_4 295 rfl ?_
  refine g_bipush (pc := 7) o dX10_given_7 6 rfl ?_
  refine g_iload_n (pc := 9) o dX10_given_9 rfl ?_
  refine g_imul (pc := 10) o dX10_given_10 ?_
  refine g_iadd (pc := 11) o dX10_given_11 ?_
  refine g_iload_n (pc := 12) o dX10_given_12 rfl ?_
  refine g_iadd (pc := 13) o dX10_given_13 ?_
  refine n_iald (pc := 14) o (295 + (k * 6 + p)) (gix k p) rfl ((by omega)) (by decide) dX10_given_14 ?_
  exact g_iret o ρ dX10_given_15 (Ei.mk rfl rfl)
set_option maxRecDepth 100000 in
theorem lp_givenBy {Γ : Fr} (o : ca_O Γ cX6_givenBy 4 RX6 1 22) {Pr : Option Value → Mem → Prop} (ρ : ca_R Γ (some .int) Pr) {h : Mem} {s : Nat → Int32} (B : BR h 1 s) (k : Nat) (hk : k < 5) (hp : Pr (some (.int (gByF s k 6))) h) : ∀ i, i ≤ 6 → ∀ xi a : Int32, xi = nI i → a = gByF s k i → ca_G Γ 4 h 4 [some (.ref 8), some (.int (nI k)), some (.int a), some (.int xi)] [] := by
  refine downI 6 (fun i hi ih => ?_)
  rintro xi a rfl rfl
  refine g_iload_n (pc := 4) o dX6_givenBy_4 rfl ?_
  refine g_bipush (pc := 5) o dX6_givenBy_5 6 rfl ?_
  refine g_ic_ge (pc := 7) o 25 dX6_givenBy_7 (by decide) (fun c7 => ?_) (fun c7 => ?_)
  · skip
    have e : i = 6 := ge8 (n := 6) (by omega) (by omega) c7
    subst e
    refine g_iload_n (pc := 25) o dX6_givenBy_25 rfl ?_
    exact g_iret o ρ dX6_givenBy_26 hp
  · skip
    have e : i < 6 := lt8 (n := 6) (by omega) (by omega) c7
    refine g_iload_n (pc := 10) o dX6_givenBy_10 rfl ?_
    refine g_aload_n (pc := 11) o dX6_givenBy_11 rfl ?_
    refine g_iload_n (pc := 12) o dX6_givenBy_12 rfl ?_
    refine g_iload_n (pc := 13) o dX6_givenBy_13 rfl ?_
    refine g_callVi (pc := 14) o (c_givenOf B k i hk e) mt_X6_givenOf mv_X6_givenOf lk_X6_24 rfl rfl rfl (by decide) rfl (Nat.le_of_ble_eq_true rfl) dX6_givenBy_14 ?_
    refine g_iadd (pc := 17) o dX6_givenBy_17 ?_
    refine g_istore_n (pc := 18) o dX6_givenBy_18 (by decide) ?_
    show ca_G Γ 4 _ _ [_, _, _, _] _
    refine g_iinc (pc := 19) o dX6_givenBy_19 rfl 1 rfl (by decide) ?_
    show ca_G Γ 4 _ _ [_, _, _, _] _
    refine g_goto (pc := 22) o 4 dX6_givenBy_22 (by decide) ?_
    exact ih e _ _ (nI_1 i) rfl
set_option maxRecDepth 100000 in
set_option maxHeartbeats 400000 in
theorem c_givenBy {h : Mem} {s : Nat → Int32} (B : BR h 1 s) (k : Nat) (hk : k < 5) : Ct yX6_givenBy cX6_givenBy 4 (some .int) 1 22 [.ref 8, .int (nI k)] h (Ei (gByF s k 6) h) := by
  refine Ct.of (by decide) (Nat.le_of_ble_eq_true rfl) (fun Γ o ρ => ?_)
  show ca_G Γ 4 _ _ [_, _, _, _] _
  refine g_iconst (pc := 0) o dX6_givenBy_0 0 rfl ?_
  refine g_istore_n (pc := 1) o dX6_givenBy_1 (by decide) ?_
  show ca_G Γ 4 _ _ [_, _, _, _] _
  refine g_iconst (pc := 2) o dX6_givenBy_2 0 rfl ?_
  refine g_istore_n (pc := 3) o dX6_givenBy_3 (by decide) ?_
  show ca_G Γ 4 _ _ [_, _, _, _] _
  exact lp_givenBy o ρ B k hk ⟨rfl, rfl⟩ 0 (by omega) 0 0 rfl rfl
set_option maxRecDepth 100000 in
theorem lp_givenFor {Γ : Fr} (o : ca_O Γ cX6_givenFor 4 RX6 1 22) {Pr : Option Value → Mem → Prop} (ρ : ca_R Γ (some .int) Pr) {h : Mem} {s : Nat → Int32} (B : BR h 1 s) (p : Nat) (hq : p < 6) (hp : Pr (some (.int (gForF s p 5))) h) : ∀ i, i ≤ 5 → ∀ xi a : Int32, xi = nI i → a = gForF s p i → ca_G Γ 4 h 4 [some (.ref 8), some (.int (nI p)), some (.int a), some (.int xi)] [] := by
  refine downI 5 (fun i hi ih => ?_)
  rintro xi a rfl rfl
  refine g_iload_n (pc := 4) o dX6_givenFor_4 rfl ?_
  refine g_iconst (pc := 5) o dX6_givenFor_5 5 rfl ?_
  refine g_ic_ge (pc := 6) o 24 dX6_givenFor_6 (by decide) (fun c6 => ?_) (fun c6 => ?_)
  · skip
    have e : i = 5 := ge8 (n := 5) (by omega) (by omega) c6
    subst e
    refine g_iload_n (pc := 24) o dX6_givenFor_24 rfl ?_
    exact g_iret o ρ dX6_givenFor_25 hp
  · skip
    have e : i < 5 := lt8 (n := 5) (by omega) (by omega) c6
    refine g_iload_n (pc := 9) o dX6_givenFor_9 rfl ?_
    refine g_aload_n (pc := 10) o dX6_givenFor_10 rfl ?_
    refine g_iload_n (pc := 11) o dX6_givenFor_11 rfl ?_
    refine g_iload_n (pc := 12) o dX6_givenFor_12 rfl ?_
    refine g_callVi (pc := 13) o (c_givenOf B i p e hq) mt_X6_givenOf mv_X6_givenOf lk_X6_24 rfl rfl rfl (by decide) rfl (Nat.le_of_ble_eq_true rfl) dX6_givenFor_13 ?_
    refine g_iadd (pc := 16) o dX6_givenFor_16 ?_
    refine g_istore_n (pc := 17) o dX6_givenFor_17 (by decide) ?_
    show ca_G Γ 4 _ _ [_, _, _, _] _
    refine g_iinc (pc := 18) o dX6_givenFor_18 rfl 1 rfl (by decide) ?_
    show ca_G Γ 4 _ _ [_, _, _, _] _
    refine g_goto (pc := 21) o 4 dX6_givenFor_21 (by decide) ?_
    exact ih e _ _ (nI_1 i) rfl
set_option maxRecDepth 100000 in
set_option maxHeartbeats 400000 in
theorem c_givenFor {h : Mem} {s : Nat → Int32} (B : BR h 1 s) (p : Nat) (hq : p < 6) : Ct yX6_givenFor cX6_givenFor 4 (some .int) 1 22 [.ref 8, .int (nI p)] h (Ei (gForF s p 5) h) := by
  refine Ct.of (by decide) (Nat.le_of_ble_eq_true rfl) (fun Γ o ρ => ?_)
  show ca_G Γ 4 _ _ [_, _, _, _] _
  refine g_iconst (pc := 0) o dX6_givenFor_0 0 rfl ?_
  refine g_istore_n (pc := 1) o dX6_givenFor_1 (by decide) ?_
  show ca_G Γ 4 _ _ [_, _, _, _] _
  refine g_iconst (pc := 2) o dX6_givenFor_2 0 rfl ?_
  refine g_istore_n (pc := 3) o dX6_givenFor_3 (by decide) ?_
  show ca_G Γ 4 _ _ [_, _, _, _] _
  exact lp_givenFor o ρ B p hq ⟨rfl, rfl⟩ 0 (by omega) 0 0 rfl rfl
set_option maxRecDepth 100000 in
theorem lp_mgivenBy {Γ : Fr} (o : ca_O Γ cX10_givenBy 4 RX10 1 22) {Pr : Option Value → Mem → Prop} (ρ : ca_R Γ (some .int) Pr) {h : Mem} (k : Nat) (hk : k < 5) (hp : Pr (some (.int (gByF (h.1 52) k 6))) h) : ∀ i, i ≤ 6 → ∀ xi a : Int32, xi = nI i → a = gByF (h.1 52) k i → ca_G Γ 4 h 4 [some (.ref 51), some (.int (nI k)), some (.int a), some (.int xi)] [] := by
  refine downI 6 (fun i hi ih => ?_)
  rintro xi a rfl rfl
  refine g_iload_n (pc := 4) o dX10_givenBy_4 rfl ?_
  refine g_bipush (pc := 5) o dX10_givenBy_5 6 rfl ?_
  refine g_ic_ge (pc := 7) o 25 dX10_givenBy_7 (by decide) (fun c7 => ?_) (fun c7 => ?_)
  · skip
    have e : i = 6 := ge8 (n := 6) (by omega) (by omega) c7
    subst e
    refine g_iload_n (pc := 25) o dX10_givenBy_25 rfl ?_
    exact g_iret o ρ dX10_givenBy_26 hp
  · skip
    have e : i < 6 := lt8 (n := 6) (by omega) (by omega) c7
    refine g_iload_n (pc := 10) o dX10_givenBy_10 rfl ?_
    refine g_aload_n (pc := 11) o dX10_givenBy_11 rfl ?_
    refine g_iload_n (pc := 12) o dX10_givenBy_12 rfl ?_
    refine g_iload_n (pc := 13) o dX10_givenBy_13 rfl ?_
    refine g_callVi (pc := 14) o (m_given k i hk e) mt_X10_given mv_X10_given lk_X10_219 rfl rfl rfl (by decide) rfl (Nat.le_of_ble_eq_true rfl) dX10_givenBy_14 ?_
    refine g_iadd (pc := 17) o dX10_givenBy_17 ?_
    refine g_istore_n (pc := 18) o dX10_givenBy_18 (by decide) ?_
    show ca_G Γ 4 _ _ [_, _, _, _] _
    refine g_iinc (pc := 19) o dX10_givenBy_19 rfl 1 rfl (by decide) ?_
    show ca_G Γ 4 _ _ [_, _, _, _] _
    refine g_goto (pc := 22) o 4 dX10_givenBy_22 (by decide) ?_
    exact ih e _ _ (nI_1 i) rfl
set_option maxRecDepth 100000 in
set_option maxHeartbeats 400000 in
theorem m_givenBy {h : Mem} (k : Nat) (hk : k < 5) : Ct yX10_givenBy cX10_givenBy 4 (some .int) 1 22 [.ref 51, .int (nI k)] h (Ei (gByF (h.1 52) k 6) h) := by
  refine Ct.of (by decide) (Nat.le_of_ble_eq_true rfl) (fun Γ o ρ => ?_)
  show ca_G Γ 4 _ _ [_, _, _, _] _
  refine g_iconst (pc := 0) o dX10_givenBy_0 0 rfl ?_
  refine g_istore_n (pc := 1) o dX10_givenBy_1 (by decide) ?_
  show ca_G Γ 4 _ _ [_, _, _, _] _
  refine g_iconst (pc := 2) o dX10_givenBy_2 0 rfl ?_
  refine g_istore_n (pc := 3) o dX10_givenBy_3 (by decide) ?_
  show ca_G Γ 4 _ _ [_, _, _, _] _
  exact lp_mgivenBy o ρ k hk ⟨rfl, rfl⟩ 0 (by omega) 0 0 rfl rfl
set_option maxRecDepth 100000 in
theorem lp_mgivenFor {Γ : Fr} (o : ca_O Γ cX10_givenFor 4 RX10 1 22) {Pr : Option Value → Mem → Prop} (ρ : ca_R Γ (some .int) Pr) {h : Mem} (p : Nat) (hq : p < 6) (hp : Pr (some (.int (gForF (h.1 52) p 5))) h) : ∀ i, i ≤ 5 → ∀ xi a : Int32, xi = nI i → a = gForF (h.1 52) p i → ca_G Γ 4 h 4 [some (.ref 51), some (.int (nI p)), some (.int a), some (.int xi)] [] := by
  refine downI 5 (fun i hi ih => ?_)
  rintro xi a rfl rfl
  refine g_iload_n (pc := 4) o dX10_givenFor_4 rfl ?_
  refine g_iconst (pc := 5) o dX10_givenFor_5 5 rfl ?_
  refine g_ic_ge (pc := 6) o 24 dX10_givenFor_6 (by decide) (fun c6 => ?_) (fun c6 => ?_)
  · skip
    have e : i = 5 := ge8 (n := 5) (by omega) (by omega) c6
    subst e
    refine g_iload_n (pc := 24) o dX10_givenFor_24 rfl ?_
    exact g_iret o ρ dX10_givenFor_25 hp
  · skip
    have e : i < 5 := lt8 (n := 5) (by omega) (by omega) c6
    refine g_iload_n (pc := 9) o dX10_givenFor_9 rfl ?_
    refine g_aload_n (pc := 10) o dX10_givenFor_10 rfl ?_
    refine g_iload_n (pc := 11) o dX10_givenFor_11 rfl ?_
    refine g_iload_n (pc := 12) o dX10_givenFor_12 rfl ?_
    refine g_callVi (pc := 13) o (m_given i p e hq) mt_X10_given mv_X10_given lk_X10_219 rfl rfl rfl (by decide) rfl (Nat.le_of_ble_eq_true rfl) dX10_givenFor_13 ?_
    refine g_iadd (pc := 16) o dX10_givenFor_16 ?_
    refine g_istore_n (pc := 17) o dX10_givenFor_17 (by decide) ?_
    show ca_G Γ 4 _ _ [_, _, _, _] _
    refine g_iinc (pc := 18) o dX10_givenFor_18 rfl 1 rfl (by decide) ?_
    show ca_G Γ 4 _ _ [_, _, _, _] _
    refine g_goto (pc := 21) o 4 dX10_givenFor_21 (by decide) ?_
    exact ih e _ _ (nI_1 i) rfl
set_option maxRecDepth 100000 in
set_option maxHeartbeats 400000 in
theorem m_givenFor {h : Mem} (p : Nat) (hq : p < 6) : Ct yX10_givenFor cX10_givenFor 4 (some .int) 1 22 [.ref 51, .int (nI p)] h (Ei (gForF (h.1 52) p 5) h) := by
  refine Ct.of (by decide) (Nat.le_of_ble_eq_true rfl) (fun Γ o ρ => ?_)
  show ca_G Γ 4 _ _ [_, _, _, _] _
  refine g_iconst (pc := 0) o dX10_givenFor_0 0 rfl ?_
  refine g_istore_n (pc := 1) o dX10_givenFor_1 (by decide) ?_
  show ca_G Γ 4 _ _ [_, _, _, _] _
  refine g_iconst (pc := 2) o dX10_givenFor_2 0 rfl ?_
  refine g_istore_n (pc := 3) o dX10_givenFor_3 (by decide) ?_
  show ca_G Γ 4 _ _ [_, _, _, _] _
  exact lp_mgivenFor o ρ p hq ⟨rfl, rfl⟩ 0 (by omega) 0 0 rfl rfl
set_option maxRecDepth 100000 in
set_option maxHeartbeats 400000 in
theorem c_setUp {h : Mem} (k : Nat) (hk : k < 5) (r b : Int32) : Ct yX6_setUp cX6_setUp 4 none 0 0 [.ref 8, .int (nI k), .int r, .int b] h (Ev (mw (mw h 9 k r) 10 k b)) := by
  refine Ct.of (by decide) (Nat.le_of_ble_eq_true rfl) (fun Γ o ρ => ?_)
  show ca_G Γ 4 _ _ [_, _, _, _] _
  refine g_aload_n (pc := 0) o dX6_setUp_0 rfl ?_
  refine g_getR (pc := 1) o 0 rfl rfl rfl inX6 (by decide) lf_X6_9 dX6_setUp_1 ?_
  refine g_iload_n (pc := 4) o dX6_setUp_4 rfl ?_
  refine g_iload_n (pc := 5) o dX6_setUp_5 rfl ?_
  refine n_iast (pc := 6) o k (rfl) rfl ((by omega)) (by decide) dX6_setUp_6 ?_
  refine g_aload_n (pc := 7) o dX6_setUp_7 rfl ?_
  refine g_getR (pc := 8) o 1 rfl rfl rfl inX6 (by decide) lf_X6_15 dX6_setUp_8 ?_
  refine g_iload_n (pc := 11) o dX6_setUp_11 rfl ?_
  refine g_iload_n (pc := 12) o dX6_setUp_12 rfl ?_
  refine n_iast (pc := 13) o k (rfl) rfl ((by omega)) (by decide) dX6_setUp_13 ?_
  exact g_vret o ρ dX6_setUp_14 ⟨rfl, rfl⟩
set_option maxRecDepth 100000 in
set_option maxHeartbeats 400000 in
theorem c_roomOf {h : Mem} {s : Nat → Int32} (B : BR h 1 s) (k : Nat) (hk : k < 5) : Ct yX6_roomOf cX6_roomOf 2 (some .int) 0 0 [.ref 8, .int (nI k)] h (Ei (s (285 + k)) h) := by
  refine Ct.of (by decide) (Nat.le_of_ble_eq_true rfl) (fun Γ o ρ => ?_)
  show ca_G Γ 2 _ _ [_, _] _
  refine g_aload_n (pc := 0) o dX6_roomOf_0 rfl ?_
  refine g_getR (pc := 1) o 0 rfl rfl rfl inX6 (by decide) lf_X6_9 dX6_roomOf_1 ?_
  refine g_iload_n (pc := 4) o dX6_roomOf_4 rfl ?_
  refine n_ialdE (pc := 5) o k (rfl) rfl ((by omega)) (by decide) (B.rm k hk) dX6_roomOf_5 ?_
  exact g_iret o ρ dX6_roomOf_6 (Ei.mk rfl rfl)
set_option maxRecDepth 100000 in
set_option maxHeartbeats 400000 in
theorem c_backedBy {h : Mem} {s : Nat → Int32} (B : BR h 1 s) (k : Nat) (hk : k < 5) : Ct yX6_backedBy cX6_backedBy 2 (some .int) 0 0 [.ref 8, .int (nI k)] h (Ei (s (290 + k)) h) := by
  refine Ct.of (by decide) (Nat.le_of_ble_eq_true rfl) (fun Γ o ρ => ?_)
  show ca_G Γ 2 _ _ [_, _] _
  refine g_aload_n (pc := 0) o dX6_backedBy_0 rfl ?_
  refine g_getR (pc := 1) o 1 rfl rfl rfl inX6 (by decide) lf_X6_15 dX6_backedBy_1 ?_
  refine g_iload_n (pc := 4) o dX6_backedBy_4 rfl ?_
  refine n_ialdE (pc := 5) o k (rfl) rfl ((by omega)) (by decide) (B.bk k hk) dX6_backedBy_5 ?_
  exact g_iret o ρ dX6_backedBy_6 (Ei.mk rfl rfl)
set_option maxRecDepth 100000 in
set_option maxHeartbeats 400000 in
theorem c_bailOf {h : Mem} {s : Nat → Int32} (B : BR h 1 s) (p : Nat) (hp : p < 6) : Ct yX6_bailOf cX6_bailOf 2 (some .int) 0 0 [.ref 8, .int (nI p)] h (Ei (s (325 + p)) h) := by
  refine Ct.of (by decide) (Nat.le_of_ble_eq_true rfl) (fun Γ o ρ => ?_)
  show ca_G Γ 2 _ _ [_, _] _
  refine g_aload_n (pc := 0) o dX6_bailOf_0 rfl ?_
  refine g_getR (pc := 1) o 3 rfl rfl rfl inX6 (by decide) lf_X6_21 dX6_bailOf_1 ?_
  refine g_iload_n (pc := 4) o dX6_bailOf_4 rfl ?_
  refine n_ialdE (pc := 5) o p (rfl) rfl ((by omega)) (by decide) (B.bl p hp) dX6_bailOf_5 ?_
  exact g_iret o ρ dX6_bailOf_6 (Ei.mk rfl rfl)
set_option maxRecDepth 100000 in
set_option maxHeartbeats 400000 in
theorem c_setBail {h : Mem} (p : Nat) (hp : p < 6) (v : Int32) : Ct yX6_setBail cX6_setBail 3 none 0 0 [.ref 8, .int (nI p), .int v] h (Ev (mw h 12 p v)) := by
  refine Ct.of (by decide) (Nat.le_of_ble_eq_true rfl) (fun Γ o ρ => ?_)
  show ca_G Γ 3 _ _ [_, _, _] _
  refine g_aload_n (pc := 0) o dX6_setBail_0 rfl ?_
  refine g_getR (pc := 1) o 3 rfl rfl rfl inX6 (by decide) lf_X6_21 dX6_setBail_1 ?_
  refine g_iload_n (pc := 4) o dX6_setBail_4 rfl ?_
  refine g_iload_n (pc := 5) o dX6_setBail_5 rfl ?_
  refine n_iast (pc := 6) o p (rfl) rfl ((by omega)) (by decide) dX6_setBail_6 ?_
  exact g_vret o ρ dX6_setBail_7 ⟨rfl, rfl⟩
def op_surety (a r b : Int32) (σ : Sg) : Int32 × Sg := if rng a 0 4 ∧ rng r 0 9999 ∧ rng b 0 63 then (if gByF (σ 0) (ca_n a) 6 ≤ 0 then (1, sf σ 0 (upd (upd (σ 0) (285 + ca_n a) r) (290 + ca_n a) b)) else fnd σ 4) else fnd σ 0
def op_bail (p v : Int32) (σ : Sg) : Int32 × Sg := if rng p 0 5 ∧ rng v 0 9999 then (if gForF (σ 0) (ca_n p) 5 ≤ 0 then (σ 0 (325 + ca_n p), sf σ 0 (upd (σ 0) (325 + ca_n p) v)) else fnd σ 4) else fnd σ 0
def op_suretyOf (a b : Int32) (σ : Sg) : Int32 × Sg := if rng a 0 4 ∧ rng b 0 7 then ((if b = 0 then σ 0 (285 + ca_n a) else if b = 1 then σ 0 (290 + ca_n a) else gvF (σ 0) (ca_n a) (ca_n b - 2)), σ) else fnd σ 0
set_option maxRecDepth 100000 in
set_option maxHeartbeats 400000 in
theorem co_surety {h : Mem} {σ : Sg} (C : CR h σ) (a r b : Int32) : Ct yX9_surety cX9_surety 4 (some .int) 2 45 [.ref 0, .int a, .int r, .int b] h (Po h (op_surety a r b σ)) := by
  refine Ct.of (by decide) (Nat.le_of_ble_eq_true rfl) (fun Γ o ρ => ?_)
  show ca_G Γ 4 _ _ [_, _, _, _] _
  refine g_iload_n (pc := 0) o dX9_surety_0 rfl ?_
  refine g_callSi (pc := 1) o (c_isSurety a h) mt_X9_isSurety ms_X9_isSurety lk_X9_218 rfl (by decide) rfl (Nat.le_of_ble_eq_true rfl) dX9_surety_1 ?_
  refine g_if_eq (pc := 4) o 24 dX9_surety_4 (by decide) (fun c4 => ?_) (fun c4 => ?_)
  · skip
    refine g_aload_n (pc := 24) o dX9_surety_24 rfl ?_
    refine g_iconst (pc := 25) o dX9_surety_25 0 rfl ?_
    refine g_callVi (pc := 26) o (c_finding 0 (by decide) h) mt_X9_finding mv_X9_finding lk_X9_58 rfl rfl rfl (by decide) rfl (Nat.le_of_ble_eq_true rfl) dX9_surety_26 ?_
    exact g_iret o ρ dX9_surety_29 (Po.eq (if_neg (fun z => bI_0.mp c4 z.1)) (Po_fnd C (by decide)))
  · skip
    refine g_iload_n (pc := 7) o dX9_surety_7 rfl ?_
    refine g_callSi (pc := 8) o (c_isMoney r h) mt_X9_isMoney ms_X9_isMoney lk_X9_221 rfl (by decide) rfl (Nat.le_of_ble_eq_true rfl) dX9_surety_8 ?_
    refine g_if_eq (pc := 11) o 24 dX9_surety_11 (by decide) (fun c11 => ?_) (fun c11 => ?_)
    · skip
      refine g_aload_n (pc := 24) o dX9_surety_24 rfl ?_
      refine g_iconst (pc := 25) o dX9_surety_25 0 rfl ?_
      refine g_callVi (pc := 26) o (c_finding 0 (by decide) h) mt_X9_finding mv_X9_finding lk_X9_58 rfl rfl rfl (by decide) rfl (Nat.le_of_ble_eq_true rfl) dX9_surety_26 ?_
      exact g_iret o ρ dX9_surety_29 (Po.eq (if_neg (fun z => bI_0.mp c11 z.2.1)) (Po_fnd C (by decide)))
    · skip
      refine g_iload_n (pc := 14) o dX9_surety_14 rfl ?_
      refine g_if_lt (pc := 15) o 24 dX9_surety_15 (by decide) (fun c15 => ?_) (fun c15 => ?_)
      · skip
        refine g_aload_n (pc := 24) o dX9_surety_24 rfl ?_
        refine g_iconst (pc := 25) o dX9_surety_25 0 rfl ?_
        refine g_callVi (pc := 26) o (c_finding 0 (by decide) h) mt_X9_finding mv_X9_finding lk_X9_58 rfl rfl rfl (by decide) rfl (Nat.le_of_ble_eq_true rfl) dX9_surety_26 ?_
        exact g_iret o ρ dX9_surety_29 (Po.eq (if_neg (fun z => (by have := (lt0 b).mp c15; have := z.2.2.1; omega))) (Po_fnd C (by decide)))
      · skip
        refine g_iload_n (pc := 18) o dX9_surety_18 rfl ?_
        refine g_bipush (pc := 19) o dX9_surety_19 64 rfl ?_
        refine g_ic_lt (pc := 21) o 30 dX9_surety_21 (by decide) (fun c21 => ?_) (fun c21 => ?_)
        · skip
          have k1 := mt (lt0 b).mpr c15
          have k2 := (ltN b 64 (by decide)).mp c21
          have eq : op_surety a r b σ = if gByF (σ 0) (ca_n a) 6 ≤ 0 then (1, sf σ 0 (upd (upd (σ 0) (285 + ca_n a) r) (290 + ca_n a) b)) else fnd σ 4 := if_pos ⟨bI_n0.mp c4, bI_n0.mp c11, by omega, by omega⟩
          rw [eq] at ρ
          obtain ⟨k, hk, rfl, ek⟩ := n_of (x := a) (b := 4) (bI_n0.mp c4) (by decide)
          rw [ek] at ρ
          refine g_aload_n (pc := 30) o dX9_surety_30 rfl ?_
          refine g_getR (pc := 31) o 0 rfl rfl rfl inX9 (by decide) lf_X9_10 dX9_surety_31 ?_
          refine g_getR (pc := 34) o 3 rfl rfl rfl inX0 (by decide) lf_X9_224 dX9_surety_34 ?_
          refine g_iload_n (pc := 37) o dX9_surety_37 rfl ?_
          refine g_callVi (pc := 38) o (c_givenBy C.1 k (by omega)) mt_X6_givenBy mv_X6_givenBy lk_X9_228 rfl rfl rfl (by decide) rfl (Nat.le_of_ble_eq_true rfl) dX9_surety_38 ?_
          refine g_if_le (pc := 41) o 50 dX9_surety_41 (by decide) (fun c41 => ?_) (fun c41 => ?_)
          · skip
            refine g_aload_n (pc := 50) o dX9_surety_50 rfl ?_
            refine g_getR (pc := 51) o 0 rfl rfl rfl inX9 (by decide) lf_X9_10 dX9_surety_51 ?_
            refine g_getR (pc := 54) o 3 rfl rfl rfl inX0 (by decide) lf_X9_224 dX9_surety_54 ?_
            refine g_iload_n (pc := 57) o dX9_surety_57 rfl ?_
            refine g_iload_n (pc := 58) o dX9_surety_58 rfl ?_
            refine g_iload_n (pc := 59) o dX9_surety_59 rfl ?_
            refine g_callVv (pc := 60) o (c_setUp k (by omega) r b) mt_X6_setUp mv_X6_setUp lk_X9_233 rfl rfl rfl (by decide) rfl (Nat.le_of_ble_eq_true rfl) dX9_surety_60 ?_
            refine g_iconst (pc := 63) o dX9_surety_63 1 rfl ?_
            exact g_iret o ρ dX9_surety_64 (Po.eq (if_pos c41) (Po_s C (BR_bk (BR_rm C.1 (by omega)) (by omega)) (((offB.rf h).mw (by decide)).mw (by decide))))
          · skip
            refine g_aload_n (pc := 44) o dX9_surety_44 rfl ?_
            refine g_iconst (pc := 45) o dX9_surety_45 4 rfl ?_
            refine g_callVi (pc := 46) o (c_finding 4 (by decide) h) mt_X9_finding mv_X9_finding lk_X9_58 rfl rfl rfl (by decide) rfl (Nat.le_of_ble_eq_true rfl) dX9_surety_46 ?_
            exact g_iret o ρ dX9_surety_49 (Po.eq (if_neg (fun z => c41 z)) (Po_fnd C (by decide)))
        · skip
          refine g_aload_n (pc := 24) o dX9_surety_24 rfl ?_
          refine g_iconst (pc := 25) o dX9_surety_25 0 rfl ?_
          refine g_callVi (pc := 26) o (c_finding 0 (by decide) h) mt_X9_finding mv_X9_finding lk_X9_58 rfl rfl rfl (by decide) rfl (Nat.le_of_ble_eq_true rfl) dX9_surety_26 ?_
          exact g_iret o ρ dX9_surety_29 (Po.eq (if_neg (fun z => (by have := mt (ltN b 64 (by decide)).mpr c21; have := z.2.2.2; omega))) (Po_fnd C (by decide)))
set_option maxRecDepth 100000 in
set_option maxHeartbeats 400000 in
theorem mo_surety {h : Mem} (a r b : Int32) : Ct yX10_surety cX10_surety 4 (some .int) 2 45 [.ref 51, .int a, .int r, .int b] h (Pm h (op_surety a r b (absM h))) := by
  refine Ct.of (by decide) (Nat.le_of_ble_eq_true rfl) (fun Γ o ρ => ?_)
  show ca_G Γ 4 _ _ [_, _, _, _] _
  have d1 := in_rng a 0 4 (by decide)
  have d2 := in_rng r 0 9999 (by decide)
  have d3 := in_rng b 0 63 (by decide)
  refine g_iload_n (pc := 0) o dX10_surety_0 rfl ?_
  refine g_i2l (pc := 1) o dX10_surety_1 ?_
  refine g_lconst (pc := 2) o dX10_surety_2 0 rfl ?_
  refine g_ldc2 (pc := 3) o dX10_surety_3 lc_X10_109 ?_
  refine g_callSi (pc := 6) o (m_in a.toInt64 0 4 h) mt_X10_in ms_X10_in lk_X10_71 rfl (by decide) rfl (Nat.le_of_ble_eq_true rfl) dX10_surety_6 ?_
  refine g_if_eq (pc := 9) o 36 dX10_surety_9 (by decide) (fun c9 => ?_) (fun c9 => ?_)
  · skip
    refine g_aload_n (pc := 36) o dX10_surety_36 rfl ?_
    refine g_ldc (pc := 37) o dX10_surety_37 lc_X10_68 ?_
    refine g_callVi (pc := 39) o (m_finds 0 (by decide) h) mt_X10_finds mv_X10_finds lk_X10_86 rfl rfl rfl (by decide) rfl (Nat.le_of_ble_eq_true rfl) dX10_surety_39 ?_
    exact g_iret o ρ dX10_surety_42 (Pm.eq (if_neg (fun z => (by rw [d1] at c9; exact bI_0.mp c9 z.1))) (Pm_fnd rfl (kC.rf h) (by decide)))
  · skip
    refine g_iload_n (pc := 12) o dX10_surety_12 rfl ?_
    refine g_i2l (pc := 13) o dX10_surety_13 ?_
    refine g_lconst (pc := 14) o dX10_surety_14 0 rfl ?_
    refine g_ldc2 (pc := 15) o dX10_surety_15 lc_X10_222 ?_
    refine g_callSi (pc := 18) o (m_in r.toInt64 0 9999 h) mt_X10_in ms_X10_in lk_X10_71 rfl (by decide) rfl (Nat.le_of_ble_eq_true rfl) dX10_surety_18 ?_
    refine g_if_eq (pc := 21) o 36 dX10_surety_21 (by decide) (fun c21 => ?_) (fun c21 => ?_)
    · skip
      refine g_aload_n (pc := 36) o dX10_surety_36 rfl ?_
      refine g_ldc (pc := 37) o dX10_surety_37 lc_X10_68 ?_
      refine g_callVi (pc := 39) o (m_finds 0 (by decide) h) mt_X10_finds mv_X10_finds lk_X10_86 rfl rfl rfl (by decide) rfl (Nat.le_of_ble_eq_true rfl) dX10_surety_39 ?_
      exact g_iret o ρ dX10_surety_42 (Pm.eq (if_neg (fun z => (by rw [d2] at c21; exact bI_0.mp c21 z.2.1))) (Pm_fnd rfl (kC.rf h) (by decide)))
    · skip
      refine g_iload_n (pc := 24) o dX10_surety_24 rfl ?_
      refine g_i2l (pc := 25) o dX10_surety_25 ?_
      refine g_lconst (pc := 26) o dX10_surety_26 0 rfl ?_
      refine g_ldc2 (pc := 27) o dX10_surety_27 lc_X10_224 ?_
      refine g_callSi (pc := 30) o (m_in b.toInt64 0 63 h) mt_X10_in ms_X10_in lk_X10_71 rfl (by decide) rfl (Nat.le_of_ble_eq_true rfl) dX10_surety_30 ?_
      refine g_if_ne (pc := 33) o 43 dX10_surety_33 (by decide) (fun c33 => ?_) (fun c33 => ?_)
      · skip
        rw [d1] at c9
        rw [d2] at c21
        rw [d3] at c33
        have eq : op_surety a r b (absM h) = if gByF (h.1 52) (ca_n a) 6 ≤ 0 then (1, sf (absM h) 0 (upd (upd (h.1 52) (285 + ca_n a) r) (290 + ca_n a) b)) else fnd (absM h) 4 := if_pos ⟨bI_n0.mp c9, bI_n0.mp c21, bI_n0.mp c33⟩
        rw [eq] at ρ
        obtain ⟨k, hk, rfl, ek⟩ := n_of (x := a) (b := 4) (bI_n0.mp c9) (by decide)
        rw [ek] at ρ
        refine g_aload_n (pc := 43) o dX10_surety_43 rfl ?_
        refine g_iload_n (pc := 44) o dX10_surety_44 rfl ?_
        refine g_callVi (pc := 45) o (m_givenBy k (by omega)) mt_X10_givenBy mv_X10_givenBy lk_X10_226 rfl rfl rfl (by decide) rfl (Nat.le_of_ble_eq_true rfl) dX10_surety_45 ?_
        refine g_if_le (pc := 48) o 58 dX10_surety_48 (by decide) (fun c48 => ?_) (fun c48 => ?_)
        · skip
          refine g_aload_n (pc := 58) o dX10_surety_58 rfl ?_
          refine g_getR (pc := 59) o 0 rfl rfl rfl inX10 (by decide) lf_X10_7 dX10_surety_59 ?_
          refine g_sipush (pc := 62) o dX10_surety_62 285 rfl ?_
          refine g_iload_n (pc := 65) o dX10_surety_65 rfl ?_
          refine g_iadd (pc := 66) o dX10_surety_66 ?_
          refine g_iload_n (pc := 67) o dX10_surety_67 rfl ?_
          refine n_iast (pc := 68) o (285 + k) (nI_add 285 k) rfl ((by omega)) (by decide) dX10_surety_68 ?_
          refine g_aload_n (pc := 69) o dX10_surety_69 rfl ?_
          refine g_getR (pc := 70) o 0 rfl rfl rfl inX10 (by decide) lf_X10_7 dX10_surety_70 ?_
          refine g_sipush (pc := 73) o dX10_surety_73 290 rfl ?_
          refine g_iload_n (pc := 76) o dX10_surety_76 rfl ?_
          refine g_iadd (pc := 77) o dX10_surety_77 ?_
          refine g_iload_n (pc := 78) o dX10_surety_78 rfl ?_
          refine n_iast (pc := 79) o (290 + k) (nI_add 290 k) rfl ((by omega)) (by decide) dX10_surety_79 ?_
          refine g_iconst (pc := 80) o dX10_surety_80 1 rfl ?_
          exact g_iret o ρ dX10_surety_81 (Pm.eq (if_pos c48) (Pm_s rfl (offM.rf h).mw.mw))
        · skip
          refine g_aload_n (pc := 51) o dX10_surety_51 rfl ?_
          refine g_ldc (pc := 52) o dX10_surety_52 lc_X10_153 ?_
          refine g_callVi (pc := 54) o (m_finds 4 (by decide) h) mt_X10_finds mv_X10_finds lk_X10_86 rfl rfl rfl (by decide) rfl (Nat.le_of_ble_eq_true rfl) dX10_surety_54 ?_
          exact g_iret o ρ dX10_surety_57 (Pm.eq (if_neg (fun z => c48 z)) (Pm_fnd rfl (kC.rf h) (by decide)))
      · skip
        refine g_aload_n (pc := 36) o dX10_surety_36 rfl ?_
        refine g_ldc (pc := 37) o dX10_surety_37 lc_X10_68 ?_
        refine g_callVi (pc := 39) o (m_finds 0 (by decide) h) mt_X10_finds mv_X10_finds lk_X10_86 rfl rfl rfl (by decide) rfl (Nat.le_of_ble_eq_true rfl) dX10_surety_39 ?_
        exact g_iret o ρ dX10_surety_42 (Pm.eq (if_neg (fun z => (by rw [d3] at c33; exact bI_0.mp c33 z.2.2))) (Pm_fnd rfl (kC.rf h) (by decide)))
set_option maxRecDepth 100000 in
set_option maxHeartbeats 400000 in
theorem co_bail {h : Mem} {σ : Sg} (C : CR h σ) (p v : Int32) : Ct yX9_bail cX9_bail 4 (some .int) 2 45 [.ref 0, .int p, .int v] h (Po h (op_bail p v σ)) := by
  refine Ct.of (by decide) (Nat.le_of_ble_eq_true rfl) (fun Γ o ρ => ?_)
  show ca_G Γ 4 _ _ [_, _, _, _] _
  refine g_iload_n (pc := 0) o dX9_bail_0 rfl ?_
  refine g_callSi (pc := 1) o (c_isPerson p h) mt_X9_isPerson ms_X9_isPerson lk_X9_83 rfl (by decide) rfl (Nat.le_of_ble_eq_true rfl) dX9_bail_1 ?_
  refine g_if_eq (pc := 4) o 14 dX9_bail_4 (by decide) (fun c4 => ?_) (fun c4 => ?_)
  · skip
    refine g_aload_n (pc := 14) o dX9_bail_14 rfl ?_
    refine g_iconst (pc := 15) o dX9_bail_15 0 rfl ?_
    refine g_callVi (pc := 16) o (c_finding 0 (by decide) h) mt_X9_finding mv_X9_finding lk_X9_58 rfl rfl rfl (by decide) rfl (Nat.le_of_ble_eq_true rfl) dX9_bail_16 ?_
    exact g_iret o ρ dX9_bail_19 (Po.eq (if_neg (fun z => bI_0.mp c4 z.1)) (Po_fnd C (by decide)))
  · skip
    refine g_iload_n (pc := 7) o dX9_bail_7 rfl ?_
    refine g_callSi (pc := 8) o (c_isMoney v h) mt_X9_isMoney ms_X9_isMoney lk_X9_221 rfl (by decide) rfl (Nat.le_of_ble_eq_true rfl) dX9_bail_8 ?_
    refine g_if_ne (pc := 11) o 20 dX9_bail_11 (by decide) (fun c11 => ?_) (fun c11 => ?_)
    · skip
      have eq : op_bail p v σ = if gForF (σ 0) (ca_n p) 5 ≤ 0 then (σ 0 (325 + ca_n p), sf σ 0 (upd (σ 0) (325 + ca_n p) v)) else fnd σ 4 := if_pos ⟨bI_n0.mp c4, bI_n0.mp c11⟩
      rw [eq] at ρ
      obtain ⟨k, hk, rfl, ek⟩ := n_of (x := p) (b := 5) (bI_n0.mp c4) (by decide)
      rw [ek] at ρ
      refine g_aload_n (pc := 20) o dX9_bail_20 rfl ?_
      refine g_getR (pc := 21) o 0 rfl rfl rfl inX9 (by decide) lf_X9_10 dX9_bail_21 ?_
      refine g_getR (pc := 24) o 3 rfl rfl rfl inX0 (by decide) lf_X9_224 dX9_bail_24 ?_
      refine g_iload_n (pc := 27) o dX9_bail_27 rfl ?_
      refine g_callVi (pc := 28) o (c_givenFor C.1 k (by omega)) mt_X6_givenFor mv_X6_givenFor lk_X9_236 rfl rfl rfl (by decide) rfl (Nat.le_of_ble_eq_true rfl) dX9_bail_28 ?_
      refine g_if_le (pc := 31) o 40 dX9_bail_31 (by decide) (fun c31 => ?_) (fun c31 => ?_)
      · skip
        refine g_aload_n (pc := 40) o dX9_bail_40 rfl ?_
        refine g_getR (pc := 41) o 0 rfl rfl rfl inX9 (by decide) lf_X9_10 dX9_bail_41 ?_
        refine g_getR (pc := 44) o 3 rfl rfl rfl inX0 (by decide) lf_X9_224 dX9_bail_44 ?_
        refine g_iload_n (pc := 47) o dX9_bail_47 rfl ?_
        refine g_callVi (pc := 48) o (c_bailOf C.1 k (by omega)) mt_X6_bailOf mv_X6_bailOf lk_X9_239 rfl rfl rfl (by decide) rfl (Nat.le_of_ble_eq_true rfl) dX9_bail_48 ?_
        refine g_istore_n (pc := 51) o dX9_bail_51 (by decide) ?_
        show ca_G Γ 4 _ _ [_, _, _, _] _
        refine g_aload_n (pc := 52) o dX9_bail_52 rfl ?_
        refine g_getR (pc := 53) o 0 rfl rfl rfl inX9 (by decide) lf_X9_10 dX9_bail_53 ?_
        refine g_getR (pc := 56) o 3 rfl rfl rfl inX0 (by decide) lf_X9_224 dX9_bail_56 ?_
        refine g_iload_n (pc := 59) o dX9_bail_59 rfl ?_
        refine g_iload_n (pc := 60) o dX9_bail_60 rfl ?_
        refine g_callVv (pc := 61) o (c_setBail k (by omega) v) mt_X6_setBail mv_X6_setBail lk_X9_242 rfl rfl rfl (by decide) rfl (Nat.le_of_ble_eq_true rfl) dX9_bail_61 ?_
        refine g_iload_n (pc := 64) o dX9_bail_64 rfl ?_
        exact g_iret o ρ dX9_bail_65 (Po.eq (if_pos c31) (Po_s C (BR_bl C.1 (by omega)) ((offB.rf h).mw (by decide))))
      · skip
        refine g_aload_n (pc := 34) o dX9_bail_34 rfl ?_
        refine g_iconst (pc := 35) o dX9_bail_35 4 rfl ?_
        refine g_callVi (pc := 36) o (c_finding 4 (by decide) h) mt_X9_finding mv_X9_finding lk_X9_58 rfl rfl rfl (by decide) rfl (Nat.le_of_ble_eq_true rfl) dX9_bail_36 ?_
        exact g_iret o ρ dX9_bail_39 (Po.eq (if_neg (fun z => c31 z)) (Po_fnd C (by decide)))
    · skip
      refine g_aload_n (pc := 14) o dX9_bail_14 rfl ?_
      refine g_iconst (pc := 15) o dX9_bail_15 0 rfl ?_
      refine g_callVi (pc := 16) o (c_finding 0 (by decide) h) mt_X9_finding mv_X9_finding lk_X9_58 rfl rfl rfl (by decide) rfl (Nat.le_of_ble_eq_true rfl) dX9_bail_16 ?_
      exact g_iret o ρ dX9_bail_19 (Po.eq (if_neg (fun z => bI_0.mp c11 z.2)) (Po_fnd C (by decide)))
set_option maxRecDepth 100000 in
set_option maxHeartbeats 400000 in
theorem mo_bail {h : Mem} (p v : Int32) : Ct yX10_bail cX10_bail 4 (some .int) 2 45 [.ref 51, .int p, .int v] h (Pm h (op_bail p v (absM h))) := by
  refine Ct.of (by decide) (Nat.le_of_ble_eq_true rfl) (fun Γ o ρ => ?_)
  show ca_G Γ 4 _ _ [_, _, _, _] _
  have d2 := in_rng v 0 9999 (by decide)
  refine g_iload_n (pc := 0) o dX10_bail_0 rfl ?_
  refine g_callSi (pc := 1) o (m_isPerson p h) mt_X10_isPerson ms_X10_isPerson lk_X10_98 rfl (by decide) rfl (Nat.le_of_ble_eq_true rfl) dX10_bail_1 ?_
  refine g_if_eq (pc := 4) o 19 dX10_bail_4 (by decide) (fun c4 => ?_) (fun c4 => ?_)
  · skip
    refine g_aload_n (pc := 19) o dX10_bail_19 rfl ?_
    refine g_ldc (pc := 20) o dX10_bail_20 lc_X10_68 ?_
    refine g_callVi (pc := 22) o (m_finds 0 (by decide) h) mt_X10_finds mv_X10_finds lk_X10_86 rfl rfl rfl (by decide) rfl (Nat.le_of_ble_eq_true rfl) dX10_bail_22 ?_
    exact g_iret o ρ dX10_bail_25 (Pm.eq (if_neg (fun z => bI_0.mp c4 z.1)) (Pm_fnd rfl (kC.rf h) (by decide)))
  · skip
    refine g_iload_n (pc := 7) o dX10_bail_7 rfl ?_
    refine g_i2l (pc := 8) o dX10_bail_8 ?_
    refine g_lconst (pc := 9) o dX10_bail_9 0 rfl ?_
    refine g_ldc2 (pc := 10) o dX10_bail_10 lc_X10_222 ?_
    refine g_callSi (pc := 13) o (m_in v.toInt64 0 9999 h) mt_X10_in ms_X10_in lk_X10_71 rfl (by decide) rfl (Nat.le_of_ble_eq_true rfl) dX10_bail_13 ?_
    refine g_if_ne (pc := 16) o 26 dX10_bail_16 (by decide) (fun c16 => ?_) (fun c16 => ?_)
    · skip
      rw [d2] at c16
      have eq : op_bail p v (absM h) = if gForF (h.1 52) (ca_n p) 5 ≤ 0 then (h.1 52 (325 + ca_n p), sf (absM h) 0 (upd (h.1 52) (325 + ca_n p) v)) else fnd (absM h) 4 := if_pos ⟨bI_n0.mp c4, bI_n0.mp c16⟩
      rw [eq] at ρ
      obtain ⟨k, hk, rfl, ek⟩ := n_of (x := p) (b := 5) (bI_n0.mp c4) (by decide)
      rw [ek] at ρ
      refine g_aload_n (pc := 26) o dX10_bail_26 rfl ?_
      refine g_iload_n (pc := 27) o dX10_bail_27 rfl ?_
      refine g_callVi (pc := 28) o (m_givenFor k (by omega)) mt_X10_givenFor mv_X10_givenFor lk_X10_229 rfl rfl rfl (by decide) rfl (Nat.le_of_ble_eq_true rfl) dX10_bail_28 ?_
      refine g_if_le (pc := 31) o 41 dX10_bail_31 (by decide) (fun c31 => ?_) (fun c31 => ?_)
      · skip
        refine g_aload_n (pc := 41) o dX10_bail_41 rfl ?_
        refine g_getR (pc := 42) o 0 rfl rfl rfl inX10 (by decide) lf_X10_7 dX10_bail_42 ?_
        refine g_sipush (pc := 45) o dX10_bail_45 325 rfl ?_
        refine g_iload_n (pc := 48) o dX10_bail_48 rfl ?_
        refine g_iadd (pc := 49) o dX10_bail_49 ?_
        refine n_iald (pc := 50) o (325 + k) (nI_add 325 k) rfl ((by omega)) (by decide) dX10_bail_50 ?_
        refine g_istore_n (pc := 51) o dX10_bail_51 (by decide) ?_
        show ca_G Γ 4 _ _ [_, _, _, _] _
        refine g_aload_n (pc := 52) o dX10_bail_52 rfl ?_
        refine g_getR (pc := 53) o 0 rfl rfl rfl inX10 (by decide) lf_X10_7 dX10_bail_53 ?_
        refine g_sipush (pc := 56) o dX10_bail_56 325 rfl ?_
        refine g_iload_n (pc := 59) o dX10_bail_59 rfl ?_
        refine g_iadd (pc := 60) o dX10_bail_60 ?_
        refine g_iload_n (pc := 61) o dX10_bail_61 rfl ?_
        refine n_iast (pc := 62) o (325 + k) (nI_add 325 k) rfl ((by omega)) (by decide) dX10_bail_62 ?_
        refine g_iload_n (pc := 63) o dX10_bail_63 rfl ?_
        exact g_iret o ρ dX10_bail_64 (Pm.eq (if_pos c31) (Pm_s rfl (offM.rf h).mw))
      · skip
        refine g_aload_n (pc := 34) o dX10_bail_34 rfl ?_
        refine g_ldc (pc := 35) o dX10_bail_35 lc_X10_153 ?_
        refine g_callVi (pc := 37) o (m_finds 4 (by decide) h) mt_X10_finds mv_X10_finds lk_X10_86 rfl rfl rfl (by decide) rfl (Nat.le_of_ble_eq_true rfl) dX10_bail_37 ?_
        exact g_iret o ρ dX10_bail_40 (Pm.eq (if_neg (fun z => c31 z)) (Pm_fnd rfl (kC.rf h) (by decide)))
    · skip
      refine g_aload_n (pc := 19) o dX10_bail_19 rfl ?_
      refine g_ldc (pc := 20) o dX10_bail_20 lc_X10_68 ?_
      refine g_callVi (pc := 22) o (m_finds 0 (by decide) h) mt_X10_finds mv_X10_finds lk_X10_86 rfl rfl rfl (by decide) rfl (Nat.le_of_ble_eq_true rfl) dX10_bail_22 ?_
      exact g_iret o ρ dX10_bail_25 (Pm.eq (if_neg (fun z => (by rw [d2] at c16; exact bI_0.mp c16 z.2))) (Pm_fnd rfl (kC.rf h) (by decide)))
set_option maxRecDepth 100000 in
set_option maxHeartbeats 400000 in
theorem co_suretyOf {h : Mem} {σ : Sg} (C : CR h σ) (a b : Int32) : Ct yX9_suretyOf cX9_suretyOf 3 (some .int) 1 22 [.ref 0, .int a, .int b] h (Po h (op_suretyOf a b σ)) := by
  refine Ct.of (by decide) (Nat.le_of_ble_eq_true rfl) (fun Γ o ρ => ?_)
  show ca_G Γ 3 _ _ [_, _, _] _
  refine g_iload_n (pc := 0) o dX9_suretyOf_0 rfl ?_
  refine g_callSi (pc := 1) o (c_isSurety a h) mt_X9_isSurety ms_X9_isSurety lk_X9_218 rfl (by decide) rfl (Nat.le_of_ble_eq_true rfl) dX9_suretyOf_1 ?_
  refine g_if_eq (pc := 4) o 17 dX9_suretyOf_4 (by decide) (fun c4 => ?_) (fun c4 => ?_)
  · skip
    refine g_aload_n (pc := 17) o dX9_suretyOf_17 rfl ?_
    refine g_iconst (pc := 18) o dX9_suretyOf_18 0 rfl ?_
    refine g_callVi (pc := 19) o (c_finding 0 (by decide) h) mt_X9_finding mv_X9_finding lk_X9_58 rfl rfl rfl (by decide) rfl (Nat.le_of_ble_eq_true rfl) dX9_suretyOf_19 ?_
    exact g_iret o ρ dX9_suretyOf_22 (Po.eq (if_neg (fun z => bI_0.mp c4 z.1)) (Po_fnd C (by decide)))
  · skip
    refine g_iload_n (pc := 7) o dX9_suretyOf_7 rfl ?_
    refine g_if_lt (pc := 8) o 17 dX9_suretyOf_8 (by decide) (fun c8 => ?_) (fun c8 => ?_)
    · skip
      refine g_aload_n (pc := 17) o dX9_suretyOf_17 rfl ?_
      refine g_iconst (pc := 18) o dX9_suretyOf_18 0 rfl ?_
      refine g_callVi (pc := 19) o (c_finding 0 (by decide) h) mt_X9_finding mv_X9_finding lk_X9_58 rfl rfl rfl (by decide) rfl (Nat.le_of_ble_eq_true rfl) dX9_suretyOf_19 ?_
      exact g_iret o ρ dX9_suretyOf_22 (Po.eq (if_neg (fun z => (by have := (lt0 b).mp c8; have := z.2.1; omega))) (Po_fnd C (by decide)))
    · skip
      refine g_iload_n (pc := 11) o dX9_suretyOf_11 rfl ?_
      refine g_bipush (pc := 12) o dX9_suretyOf_12 8 rfl ?_
      refine g_ic_lt (pc := 14) o 23 dX9_suretyOf_14 (by decide) (fun c14 => ?_) (fun c14 => ?_)
      · skip
        have k1 := mt (lt0 b).mpr c8
        have k2 := (ltN b 8 (by decide)).mp c14
        have eq : op_suretyOf a b σ = ((if b = 0 then σ 0 (285 + ca_n a) else if b = 1 then σ 0 (290 + ca_n a) else gvF (σ 0) (ca_n a) (ca_n b - 2)), σ) := if_pos ⟨bI_n0.mp c4, by omega, by omega⟩
        rw [eq] at ρ
        obtain ⟨k, hk, rfl, ek⟩ := n_of (x := a) (b := 4) (bI_n0.mp c4) (by decide)
        obtain ⟨j, hj, rfl, ej⟩ := n_of (x := b) (b := 7) ⟨by omega, by omega⟩ (by decide)
        rw [ek, ej] at ρ
        refine g_iload_n (pc := 23) o dX9_suretyOf_23 rfl ?_
        refine g_if_ne (pc := 24) o 39 dX9_suretyOf_24 (by decide) (fun c24 => ?_) (fun c24 => ?_)
        · skip
          rw [if_neg c24] at ρ
          refine g_iload_n (pc := 39) o dX9_suretyOf_39 rfl ?_
          refine g_iconst (pc := 40) o dX9_suretyOf_40 1 rfl ?_
          refine g_ic_ne (pc := 41) o 56 dX9_suretyOf_41 (by decide) (fun c41 => ?_) (fun c41 => ?_)
          · skip
            rw [if_neg c41] at ρ
            have j2 : 2 ≤ j := by
              have n0 : j ≠ 0 := fun q => c24 (by rw [q]; rfl)
              have n1 : j ≠ 1 := fun q => c41 (by rw [q]; rfl)
              omega
            have es : nI j - 2 = nI (j - 2) := pk_sub j2
            refine g_aload_n (pc := 56) o dX9_suretyOf_56 rfl ?_
            refine g_getR (pc := 57) o 0 rfl rfl rfl inX9 (by decide) lf_X9_10 dX9_suretyOf_57 ?_
            refine g_getR (pc := 60) o 3 rfl rfl rfl inX0 (by decide) lf_X9_224 dX9_suretyOf_60 ?_
            refine g_iload_n (pc := 63) o dX9_suretyOf_63 rfl ?_
            refine g_iload_n (pc := 64) o dX9_suretyOf_64 rfl ?_
            refine g_iconst (pc := 65) o dX9_suretyOf_65 2 rfl ?_
            refine g_isub (pc := 66) o dX9_suretyOf_66 ?_
            rw [es]
            refine g_callVi (pc := 67) o (c_givenOf C.1 k (j - 2) (by omega) (by omega)) mt_X6_givenOf mv_X6_givenOf lk_X9_257 rfl rfl rfl (by decide) rfl (Nat.le_of_ble_eq_true rfl) dX9_suretyOf_67 ?_
            exact g_iret o ρ dX9_suretyOf_70 (Po.mk rfl C (kM.rf h))
          · skip
            rw [if_pos c41] at ρ
            refine g_aload_n (pc := 44) o dX9_suretyOf_44 rfl ?_
            refine g_getR (pc := 45) o 0 rfl rfl rfl inX9 (by decide) lf_X9_10 dX9_suretyOf_45 ?_
            refine g_getR (pc := 48) o 3 rfl rfl rfl inX0 (by decide) lf_X9_224 dX9_suretyOf_48 ?_
            refine g_iload_n (pc := 51) o dX9_suretyOf_51 rfl ?_
            refine g_callVi (pc := 52) o (c_backedBy C.1 k (by omega)) mt_X6_backedBy mv_X6_backedBy lk_X9_254 rfl rfl rfl (by decide) rfl (Nat.le_of_ble_eq_true rfl) dX9_suretyOf_52 ?_
            exact g_iret o ρ dX9_suretyOf_55 (Po.mk rfl C (kM.rf h))
        · skip
          rw [if_pos c24] at ρ
          refine g_aload_n (pc := 27) o dX9_suretyOf_27 rfl ?_
          refine g_getR (pc := 28) o 0 rfl rfl rfl inX9 (by decide) lf_X9_10 dX9_suretyOf_28 ?_
          refine g_getR (pc := 31) o 3 rfl rfl rfl inX0 (by decide) lf_X9_224 dX9_suretyOf_31 ?_
          refine g_iload_n (pc := 34) o dX9_suretyOf_34 rfl ?_
          refine g_callVi (pc := 35) o (c_roomOf C.1 k (by omega)) mt_X6_roomOf mv_X6_roomOf lk_X9_251 rfl rfl rfl (by decide) rfl (Nat.le_of_ble_eq_true rfl) dX9_suretyOf_35 ?_
          exact g_iret o ρ dX9_suretyOf_38 (Po.mk rfl C (kM.rf h))
      · skip
        refine g_aload_n (pc := 17) o dX9_suretyOf_17 rfl ?_
        refine g_iconst (pc := 18) o dX9_suretyOf_18 0 rfl ?_
        refine g_callVi (pc := 19) o (c_finding 0 (by decide) h) mt_X9_finding mv_X9_finding lk_X9_58 rfl rfl rfl (by decide) rfl (Nat.le_of_ble_eq_true rfl) dX9_suretyOf_19 ?_
        exact g_iret o ρ dX9_suretyOf_22 (Po.eq (if_neg (fun z => (by have := mt (ltN b 8 (by decide)).mpr c14; have := z.2.2; omega))) (Po_fnd C (by decide)))
set_option maxRecDepth 100000 in
set_option maxHeartbeats 400000 in
theorem mo_suretyOf {h : Mem} (a b : Int32) : Ct yX10_suretyOf cX10_suretyOf 3 (some .int) 1 25 [.ref 51, .int a, .int b] h (Pm h (op_suretyOf a b (absM h))) := by
  refine Ct.of (by decide) (Nat.le_of_ble_eq_true rfl) (fun Γ o ρ => ?_)
  show ca_G Γ 3 _ _ [_, _, _] _
  have d1 := in_rng a 0 4 (by decide)
  have d2 := in_rng b 0 7 (by decide)
  refine g_iload_n (pc := 0) o dX10_suretyOf_0 rfl ?_
  refine g_i2l (pc := 1) o dX10_suretyOf_1 ?_
  refine g_lconst (pc := 2) o dX10_suretyOf_2 0 rfl ?_
  refine g_ldc2 (pc := 3) o dX10_suretyOf_3 lc_X10_109 ?_
  refine g_callSi (pc := 6) o (m_in a.toInt64 0 4 h) mt_X10_in ms_X10_in lk_X10_71 rfl (by decide) rfl (Nat.le_of_ble_eq_true rfl) dX10_suretyOf_6 ?_
  refine g_if_eq (pc := 9) o 24 dX10_suretyOf_9 (by decide) (fun c9 => ?_) (fun c9 => ?_)
  · skip
    refine g_aload_n (pc := 24) o dX10_suretyOf_24 rfl ?_
    refine g_ldc (pc := 25) o dX10_suretyOf_25 lc_X10_68 ?_
    refine g_callVi (pc := 27) o (m_finds 0 (by decide) h) mt_X10_finds mv_X10_finds lk_X10_86 rfl rfl rfl (by decide) rfl (Nat.le_of_ble_eq_true rfl) dX10_suretyOf_27 ?_
    exact g_iret o ρ dX10_suretyOf_30 (Pm.eq (if_neg (fun z => (by rw [d1] at c9; exact bI_0.mp c9 z.1))) (Pm_fnd rfl (kC.rf h) (by decide)))
  · skip
    refine g_iload_n (pc := 12) o dX10_suretyOf_12 rfl ?_
    refine g_i2l (pc := 13) o dX10_suretyOf_13 ?_
    refine g_lconst (pc := 14) o dX10_suretyOf_14 0 rfl ?_
    refine g_ldc2 (pc := 15) o dX10_suretyOf_15 lc_X10_75 ?_
    refine g_callSi (pc := 18) o (m_in b.toInt64 0 7 h) mt_X10_in ms_X10_in lk_X10_71 rfl (by decide) rfl (Nat.le_of_ble_eq_true rfl) dX10_suretyOf_18 ?_
    refine g_if_ne (pc := 21) o 31 dX10_suretyOf_21 (by decide) (fun c21 => ?_) (fun c21 => ?_)
    · skip
      rw [d1] at c9
      rw [d2] at c21
      have eq : op_suretyOf a b (absM h) = ((if b = 0 then h.1 52 (285 + ca_n a) else if b = 1 then h.1 52 (290 + ca_n a) else gvF (h.1 52) (ca_n a) (ca_n b - 2)), absM h) := if_pos ⟨bI_n0.mp c9, bI_n0.mp c21⟩
      rw [eq] at ρ
      obtain ⟨k, hk, rfl, ek⟩ := n_of (x := a) (b := 4) (bI_n0.mp c9) (by decide)
      obtain ⟨j, hj, rfl, ej⟩ := n_of (x := b) (b := 7) (bI_n0.mp c21) (by decide)
      rw [ek, ej] at ρ
      refine g_iload_n (pc := 31) o dX10_suretyOf_31 rfl ?_
      refine g_if_ne (pc := 32) o 48 dX10_suretyOf_32 (by decide) (fun c32 => ?_) (fun c32 => ?_)
      · skip
        rw [if_neg c32] at ρ
        refine g_iload_n (pc := 48) o dX10_suretyOf_48 rfl ?_
        refine g_iconst (pc := 49) o dX10_suretyOf_49 1 rfl ?_
        refine g_ic_ne (pc := 50) o 66 dX10_suretyOf_50 (by decide) (fun c50 => ?_) (fun c50 => ?_)
        · skip
          rw [if_neg c50] at ρ
          have j2 : 2 ≤ j := by
            have n0 : j ≠ 0 := fun q => c32 (by rw [q]; rfl)
            have n1 : j ≠ 1 := fun q => c50 (by rw [q]; rfl)
            omega
          have es : nI j - 2 = nI (j - 2) := pk_sub j2
          refine g_aload_n (pc := 66) o dX10_suretyOf_66 rfl ?_
          refine g_iload_n (pc := 67) o dX10_suretyOf_67 rfl ?_
          refine g_iload_n (pc := 68) o dX10_suretyOf_68 rfl ?_
          refine g_iconst (pc := 69) o dX10_suretyOf_69 2 rfl ?_
          refine g_isub (pc := 70) o dX10_suretyOf_70 ?_
          rw [es]
          refine g_callVi (pc := 71) o (m_given k (j - 2) (by omega) (by omega)) mt_X10_given mv_X10_given lk_X10_219 rfl rfl rfl (by decide) rfl (Nat.le_of_ble_eq_true rfl) dX10_suretyOf_71 ?_
          exact g_iret o ρ dX10_suretyOf_74 (Pm.mk rfl rfl (kC.rf h))
        · skip
          rw [if_pos c50] at ρ
          refine g_aload_n (pc := 53) o dX10_suretyOf_53 rfl ?_
          refine g_getR (pc := 54) o 0 rfl rfl rfl inX10 (by decide) lf_X10_7 dX10_suretyOf_54 ?_
          refine g_sipush (pc := 57) o dX10_suretyOf_57 290 rfl ?_
          refine g_iload_n (pc := 60) o dX10_suretyOf_60 rfl ?_
          refine g_iadd (pc := 61) o dX10_suretyOf_61 ?_
          refine n_iald (pc := 62) o (290 + k) (nI_add 290 k) rfl ((by omega)) (by decide) dX10_suretyOf_62 ?_
          refine g_goto (pc := 63) o 74 dX10_suretyOf_63 (by decide) ?_
          exact g_iret o ρ dX10_suretyOf_74 (Pm.mk rfl rfl (kC.rf h))
      · skip
        rw [if_pos c32] at ρ
        refine g_aload_n (pc := 35) o dX10_suretyOf_35 rfl ?_
        refine g_getR (pc := 36) o 0 rfl rfl rfl inX10 (by decide) lf_X10_7 dX10_suretyOf_36 ?_
        refine g_sipush (pc := 39) o dX10_suretyOf_39 285 rfl ?_
        refine g_iload_n (pc := 42) o dX10_suretyOf_42 rfl ?_
        refine g_iadd (pc := 43) o dX10_suretyOf_43 ?_
        refine n_iald (pc := 44) o (285 + k) (nI_add 285 k) rfl ((by omega)) (by decide) dX10_suretyOf_44 ?_
        refine g_goto (pc := 45) o 74 dX10_suretyOf_45 (by decide) ?_
        exact g_iret o ρ dX10_suretyOf_74 (Pm.mk rfl rfl (kC.rf h))

    · skip
      refine g_aload_n (pc := 24) o dX10_suretyOf_24 rfl ?_
      refine g_ldc (pc := 25) o dX10_suretyOf_25 lc_X10_68 ?_
      refine g_callVi (pc := 27) o (m_finds 0 (by decide) h) mt_X10_finds mv_X10_finds lk_X10_86 rfl rfl rfl (by decide) rfl (Nat.le_of_ble_eq_true rfl) dX10_suretyOf_27 ?_
      exact g_iret o ρ dX10_suretyOf_30 (Pm.eq (if_neg (fun z => (by rw [d2] at c21; exact bI_0.mp c21 z.2))) (Pm_fnd rfl (kC.rf h) (by decide)))
