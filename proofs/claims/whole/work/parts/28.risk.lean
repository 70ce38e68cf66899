/-! ===== risk, strict ===== -/
def chs (n : Nat) : Nat → Nat
  | 0 => 1
  | c + 1 => chs n c * (n - c) / (c + 1)
def tN (r n c : Nat) : Nat := chs n c * r ^ c * (10 - r) ^ (n - c)
def rkS (r n k : Nat) : Nat → Nat
  | 0 => 0
  | m + 1 => rkS r n k m + (if k ≤ m then tN r n m else 0)
def rkN (r n k : Nat) : Nat := rkS r n k (n + 1)
theorem rkS_s (r n k m : Nat) : rkS r n k (m + 1) = rkS r n k m + (if k ≤ m then tN r n m else 0) := rfl
theorem chs_le : ∀ n, n < 10 → ∀ c, c < 11 → chs n c ≤ 126 := by decide +kernel
theorem rkN_le : ∀ r, r < 11 → ∀ n, n < 10 → ∀ k, k < 10 → rkN r n k ≤ 1000000000 := by decide +kernel
def euL : Nat → Nat → Nat → Nat
  | 0, a, _ => a
  | n + 1, a, b => if b = 0 then a else euL n b (a % b)
theorem euL_s (n a b : Nat) : euL (n + 1) a b = if b = 0 then a else euL n b (a % b) := rfl
theorem eu_g : ∀ r, r < 11 → ∀ n, n < 10 → ∀ k, k < 10 → euL 100 (rkN r n k) (10 ^ n) = Nat.gcd (rkN r n k) (10 ^ n) := by decide +kernel
theorem lN_ne {a : Nat} (h0 : 0 < a) (h : a < 2 ^ 63) : ¬ lN a = 0 := fun z => absurd ((pk_lEQ h (by decide)).mp (show lN a = lN 0 from z)) (by omega)
set_option maxRecDepth 100000 in
theorem lp_power {Γ : Fr} (o : ca_O Γ cX9_power 5 RX9 0 0) {Pr : Option Value → Mem → Prop} (ρ : ca_R Γ (some .long) Pr) {h : Mem} (b e : Nat) (hb : b < 2 ^ 31) (he : e < 2 ^ 30) (hp : Pr (some (.long (lN (b ^ e)))) h) : ∀ i, i ≤ e → ∀ (xi : Int32) (y : Int64), xi = nI i → y = lN (b ^ i) → ca_G Γ 5 h 5 [some (.int (nI b)), some (.int (nI e)), some (.long y), none, some (.int xi)] [] := by
  refine downI e (fun i hi ih => ?_)
  rintro xi y rfl rfl
  refine g_iload (pc := 5) o dX9_power_5 rfl ?_
  refine g_iload_n (pc := 7) o dX9_power_7 rfl ?_
  refine g_ic_ge (pc := 8) o 22 dX9_power_8 (by decide) (fun c8 => ?_) (fun c8 => ?_)
  · skip
    have e1 : i = e := ge8 (n := e) (by omega) (by omega) c8
    subst e1
    refine g_lload_n (pc := 22) o dX9_power_22 rfl ?_
    exact g_lret o ρ dX9_power_23 hp
  · skip
    have e1 : i < e := lt8 (n := e) (by omega) (by omega) c8
    refine g_lload_n (pc := 11) o dX9_power_11 rfl ?_
    refine g_iload_n (pc := 12) o dX9_power_12 rfl ?_
    refine g_i2l (pc := 13) o dX9_power_13 ?_
    refine g_lmul (pc := 14) o dX9_power_14 ?_
    refine g_lstore_n (pc := 15) o dX9_power_15 (by decide) ?_
    show ca_G Γ 5 _ _ [_, _, _, _, _] _
    refine g_iinc (pc := 16) o dX9_power_16 rfl 1 rfl (by decide) ?_
    show ca_G Γ 5 _ _ [_, _, _, _, _] _
    refine g_goto (pc := 19) o 5 dX9_power_19 (by decide) ?_
    exact ih e1 _ _ (nI_1 i) (by rw [nI_l hb, lN_mul, Nat.pow_succ])
set_option maxRecDepth 100000 in
set_option maxHeartbeats 400000 in
theorem c_power (b e : Nat) (hb : b < 2 ^ 31) (he : e < 2 ^ 30) (h : Mem) : Ct yX9_power cX9_power 5 (some .long) 0 0 [.int (nI b), .int (nI e)] h (El (lN (b ^ e)) h) := by
  refine Ct.of (by decide) (Nat.le_of_ble_eq_true rfl) (fun Γ o ρ => ?_)
  show ca_G Γ 5 _ _ [_, _, _, _, _] _
  refine g_lconst (pc := 0) o dX9_power_0 1 rfl ?_
  refine g_lstore_n (pc := 1) o dX9_power_1 (by decide) ?_
  show ca_G Γ 5 _ _ [_, _, _, _, _] _
  refine g_iconst (pc := 2) o dX9_power_2 0 rfl ?_
  refine g_istore (pc := 3) o dX9_power_3 (by decide) ?_
  show ca_G Γ 5 _ _ [_, _, _, _, _] _
  exact lp_power o ρ b e hb he ⟨rfl, rfl⟩ 0 (by omega) 0 1 rfl rfl
set_option maxRecDepth 100000 in
set_option maxHeartbeats 400000 in
theorem lp_riskAbove {Γ : Fr} (o : ca_O Γ cX9_riskAbove 8 RX9 1 24) {Pr : Option Value → Mem → Prop} (ρ : ca_R Γ (some .long) Pr) {h : Mem} (r n k : Nat) (hr : r < 11) (hn : n < 10) (hk : k < 10) (hp : Pr (some (.long (lN (rkN r n k)))) h) : ∀ i, i ≤ n + 1 → ∀ (xi : Int32) (y ch : Int64), xi = nI i → y = lN (rkS r n k i) → ch = lN (chs n i) → ca_G Γ 8 h 8 [some (.int (nI r)), some (.int (nI n)), some (.int (nI k)), some (.long y), none, some (.long ch), none, some (.int xi)] [] := by
  refine downI (n + 1) (fun i hi ih => ?_)
  rintro xi y ch rfl rfl rfl
  have s1 : (10 : Int32) - nI r = nI (10 - r) := pk_sub (a := 10) (b := r) (by omega)
  refine g_iload (pc := 8) o dX9_riskAbove_8 rfl ?_
  refine g_iload_n (pc := 10) o dX9_riskAbove_10 rfl ?_
  refine g_ic_gt (pc := 11) o 66 dX9_riskAbove_11 (by decide) (fun c11 => ?_) (fun c11 => ?_)
  · skip
    have e1 : i = n + 1 := by have := (nI_ltI (by omega) (by omega)).mp c11; omega
    subst e1
    refine g_lload_n (pc := 66) o dX9_riskAbove_66 rfl ?_
    exact g_lret o ρ dX9_riskAbove_67 hp
  · skip
    have e1 : i ≤ n := by have := mt (nI_ltI (a := n) (b := i) (by omega) (by omega)).mpr c11; omega
    have s2 : nI n - nI i = nI (n - i) := pk_sub e1
    have cl := chs_le n hn i (by omega)
    have nl : chs n i * (n - i) < 2 ^ 63 := Nat.lt_of_le_of_lt (Nat.mul_le_mul cl (show n - i ≤ 10 by omega)) (by decide)
    have step : ∀ y2, y2 = lN (rkS r n k (i + 1)) → ca_G Γ 8 h 44 [some (.int (nI r)), some (.int (nI n)), some (.int (nI k)), some (.long y2), none, some (.long (lN (chs n i))), none, some (.int (nI i))] [] := by
      intro y2 ey
      refine g_lload (pc := 44) o dX9_riskAbove_44 rfl ?_
      refine g_iload_n (pc := 46) o dX9_riskAbove_46 rfl ?_
      refine g_iload (pc := 47) o dX9_riskAbove_47 rfl ?_
      refine g_isub (pc := 49) o dX9_riskAbove_49 ?_
      rw [s2]
      refine g_i2l (pc := 50) o dX9_riskAbove_50 ?_
      refine g_lmul (pc := 51) o dX9_riskAbove_51 ?_
      refine g_iload (pc := 52) o dX9_riskAbove_52 rfl ?_
      refine g_iconst (pc := 54) o dX9_riskAbove_54 1 rfl ?_
      refine g_iadd (pc := 55) o dX9_riskAbove_55 ?_
      refine g_i2l (pc := 56) o dX9_riskAbove_56 ?_
      rw [nI_l (by omega), lN_mul, show nI i + 1 = nI (i + 1) from nI_1 i, nI_l (by omega)]
      refine g_ldiv (pc := 57) o dX9_riskAbove_57 (lN_ne (by omega) (by omega)) ?_
      rw [pk_lDiv nl (by omega) (by omega)]
      refine g_lstore (pc := 58) o dX9_riskAbove_58 (by decide) ?_
      show ca_G Γ 8 _ _ [_, _, _, _, _, _, _, _] _
      refine g_iinc (pc := 60) o dX9_riskAbove_60 rfl 1 rfl (by decide) ?_
      show ca_G Γ 8 _ _ [_, _, _, _, _, _, _, _] _
      refine g_goto (pc := 63) o 8 dX9_riskAbove_63 (by decide) ?_
      exact ih (by omega) _ _ _ (nI_1 i) ey rfl
    refine g_iload (pc := 14) o dX9_riskAbove_14 rfl ?_
    refine g_iload_n (pc := 16) o dX9_riskAbove_16 rfl ?_
    refine g_ic_lt (pc := 17) o 44 dX9_riskAbove_17 (by decide) (fun c17 => ?_) (fun c17 => ?_)
    · skip
      have e2 : ¬ k ≤ i := by have := (nI_ltI (by omega) (by omega)).mp c17; omega
      exact step _ (by rw [rkS_s, if_neg e2]; rfl)
    · skip
      have e2 : k ≤ i := by have := mt (nI_ltI (a := i) (b := k) (by omega) (by omega)).mpr c17; omega
      refine g_lload_n (pc := 20) o dX9_riskAbove_20 rfl ?_
      refine g_lload (pc := 21) o dX9_riskAbove_21 rfl ?_
      refine g_iload_n (pc := 23) o dX9_riskAbove_23 rfl ?_
      refine g_iload (pc := 24) o dX9_riskAbove_24 rfl ?_
      refine g_callSl (pc := 26) o (c_power r i (by omega) (by omega) h) mt_X9_power ms_X9_power lk_X9_208 rfl (by decide) rfl (Nat.le_of_ble_eq_true rfl) dX9_riskAbove_26 ?_
      refine g_lmul (pc := 29) o dX9_riskAbove_29 ?_
      refine g_bipush (pc := 30) o dX9_riskAbove_30 10 rfl ?_
      refine g_iload_n (pc := 32) o dX9_riskAbove_32 rfl ?_
      refine g_isub (pc := 33) o dX9_riskAbove_33 ?_
      rw [s1]
      refine g_iload_n (pc := 34) o dX9_riskAbove_34 rfl ?_
      refine g_iload (pc := 35) o dX9_riskAbove_35 rfl ?_
      refine g_isub (pc := 37) o dX9_riskAbove_37 ?_
      rw [s2]
      refine g_callSl (pc := 38) o (c_power (10 - r) (n - i) (by omega) (by omega) h) mt_X9_power ms_X9_power lk_X9_208 rfl (by decide) rfl (Nat.le_of_ble_eq_true rfl) dX9_riskAbove_38 ?_
      refine g_lmul (pc := 41) o dX9_riskAbove_41 ?_
      refine g_ladd (pc := 42) o dX9_riskAbove_42 ?_
      refine g_lstore_n (pc := 43) o dX9_riskAbove_43 (by decide) ?_
      show ca_G Γ 8 _ _ [_, _, _, _, _, _, _, _] _
      exact step _ (by rw [rkS_s, if_pos e2, lN_mul, lN_mul, lN_add]; rfl)
set_option maxRecDepth 100000 in
set_option maxHeartbeats 400000 in
theorem c_riskAbove (r n k : Nat) (hr : r < 11) (hn : n < 10) (hk : k < 10) (h : Mem) : Ct yX9_riskAbove cX9_riskAbove 8 (some .long) 1 24 [.int (nI r), .int (nI n), .int (nI k)] h (El (lN (rkN r n k)) h) := by
  refine Ct.of (by decide) (Nat.le_of_ble_eq_true rfl) (fun Γ o ρ => ?_)
  show ca_G Γ 8 _ _ [_, _, _, _, _, _, _, _] _
  refine g_lconst (pc := 0) o dX9_riskAbove_0 0 rfl ?_
  refine g_lstore_n (pc := 1) o dX9_riskAbove_1 (by decide) ?_
  show ca_G Γ 8 _ _ [_, _, _, _, _, _, _, _] _
  refine g_lconst (pc := 2) o dX9_riskAbove_2 1 rfl ?_
  refine g_lstore (pc := 3) o dX9_riskAbove_3 (by decide) ?_
  show ca_G Γ 8 _ _ [_, _, _, _, _, _, _, _] _
  refine g_iconst (pc := 5) o dX9_riskAbove_5 0 rfl ?_
  refine g_istore (pc := 6) o dX9_riskAbove_6 (by decide) ?_
  show ca_G Γ 8 _ _ [_, _, _, _, _, _, _, _] _
  exact lp_riskAbove o ρ r n k hr hn hk ⟨rfl, rfl⟩ 0 (by omega) 0 0 1 rfl rfl rfl
set_option maxRecDepth 100000 in
set_option maxHeartbeats 400000 in
theorem lp_gcd {Γ : Fr} (o : ca_O Γ cX9_commonDivisor 11 RX9 0 0) {Pr : Option Value → Mem → Prop} (ρ : ca_R Γ (some .long) Pr) {h : Mem} (x1 x2 : Int64) (z : Nat) (hp : Pr (some (.long (lN z))) h) : ∀ i, i ≤ 100 → ∀ (xi : Int32) (a b : Nat) (j9 j10 : Option Value), xi = nI i → a < 2 ^ 63 → b < 2 ^ 63 → euL (100 - i) a b = z → ca_G Γ 11 h 9 [some (.long x1), none, some (.long x2), none, some (.long (lN a)), none, some (.long (lN b)), none, some (.int xi), j9, j10] [] := by
  refine downI 100 (fun i hi ih => ?_)
  rintro xi a b j9 j10 rfl ha hb e
  refine g_iload (pc := 9) o dX9_commonDivisor_9 rfl ?_
  refine g_bipush (pc := 11) o dX9_commonDivisor_11 100 rfl ?_
  refine g_ic_ge (pc := 13) o 44 dX9_commonDivisor_13 (by decide) (fun c13 => ?_) (fun c13 => ?_)
  · skip
    have e1 : i = 100 := ge8 (n := 100) (by omega) (by omega) c13
    subst e1
    have e : a = z := e
    subst e
    refine g_lload (pc := 44) o dX9_commonDivisor_44 rfl ?_
    exact g_lret o ρ dX9_commonDivisor_46 hp
  · skip
    have e1 : i < 100 := lt8 (n := 100) (by omega) (by omega) c13
    rw [show 100 - i = (100 - (i + 1)) + 1 by omega, euL_s] at e
    refine g_lload (pc := 16) o dX9_commonDivisor_16 rfl ?_
    refine g_lconst (pc := 18) o dX9_commonDivisor_18 0 rfl ?_
    refine g_lcmp (pc := 19) o dX9_commonDivisor_19 ?_
    refine g_if_eq (pc := 20) o 44 dX9_commonDivisor_20 (by decide) (fun c20 => ?_) (fun c20 => ?_)
    · skip
      have b0 : b = 0 := (pk_lEQ hb (by decide)).mp ((lg_cmp_eq _ _).mp c20)
      rw [if_pos b0] at e
      subst e
      refine g_lload (pc := 44) o dX9_commonDivisor_44 rfl ?_
      exact g_lret o ρ dX9_commonDivisor_46 hp
    · skip
      have b0 : ¬ b = 0 := fun q => c20 ((lg_cmp_eq _ _).mpr (by rw [q]; rfl))
      rw [if_neg b0] at e
      have em : jlrem (lN a) (lN b) = lN (a % b) := pk_lRem ha (by omega) hb
      refine g_lload (pc := 23) o dX9_commonDivisor_23 rfl ?_
      refine g_lload (pc := 25) o dX9_commonDivisor_25 rfl ?_
      refine g_lrem (pc := 27) o dX9_commonDivisor_27 (lN_ne (by omega) hb) ?_
      rw [em]
      refine g_lstore (pc := 28) o dX9_commonDivisor_28 (by decide) ?_
      show ca_G Γ 11 _ _ [_, _, _, _, _, _, _, _, _, _, _] _
      refine g_lload (pc := 30) o dX9_commonDivisor_30 rfl ?_
      refine g_lstore (pc := 32) o dX9_commonDivisor_32 (by decide) ?_
      show ca_G Γ 11 _ _ [_, _, _, _, _, _, _, _, _, _, _] _
      refine g_lload (pc := 34) o dX9_commonDivisor_34 rfl ?_
      refine g_lstore (pc := 36) o dX9_commonDivisor_36 (by decide) ?_
      show ca_G Γ 11 _ _ [_, _, _, _, _, _, _, _, _, _, _] _
      refine g_iinc (pc := 38) o dX9_commonDivisor_38 rfl 1 rfl (by decide) ?_
      show ca_G Γ 11 _ _ [_, _, _, _, _, _, _, _, _, _, _] _
      refine g_goto (pc := 41) o 9 dX9_commonDivisor_41 (by decide) ?_
      exact ih e1 _ _ _ _ _ (nI_1 i) hb (Nat.lt_trans (Nat.mod_lt _ (by omega)) hb) e
set_option maxRecDepth 100000 in
set_option maxHeartbeats 400000 in
theorem c_gcd (a b : Nat) (ha : a < 2 ^ 63) (hb : b < 2 ^ 63) (h : Mem) : Ct yX9_commonDivisor cX9_commonDivisor 11 (some .long) 0 0 [.long (lN a), .long (lN b)] h (El (lN (euL 100 a b)) h) := by
  refine Ct.of (by decide) (Nat.le_of_ble_eq_true rfl) (fun Γ o ρ => ?_)
  show ca_G Γ 11 _ _ [_, _, _, _, _, _, _, _, _, _, _] _
  refine g_lload_n (pc := 0) o dX9_commonDivisor_0 rfl ?_
  refine g_lstore (pc := 1) o dX9_commonDivisor_1 (by decide) ?_
  show ca_G Γ 11 _ _ [_, _, _, _, _, _, _, _, _, _, _] _
  refine g_lload_n (pc := 3) o dX9_commonDivisor_3 rfl ?_
  refine g_lstore (pc := 4) o dX9_commonDivisor_4 (by decide) ?_
  show ca_G Γ 11 _ _ [_, _, _, _, _, _, _, _, _, _, _] _
  refine g_iconst (pc := 6) o dX9_commonDivisor_6 0 rfl ?_
  refine g_istore (pc := 7) o dX9_commonDivisor_7 (by decide) ?_
  show ca_G Γ 11 _ _ [_, _, _, _, _, _, _, _, _, _, _] _
  exact lp_gcd o ρ _ _ _ ⟨rfl, rfl⟩ 0 (by omega) 0 a b _ _ rfl ha hb rfl
def rkV (r n k : Nat) (p : Int32) : Nat := (if p = 0 then rkN r n k else 10 ^ n) / Nat.gcd (rkN r n k) (10 ^ n)
def op_risk (r n k p : Int32) (σ : Sg) : Int32 × Sg := if rng r 0 10 ∧ rng n 1 9 ∧ rng k 0 9 ∧ rng p 0 1 then (nI (rkV (ca_n r) (ca_n n) (ca_n k) p), σ) else fnd σ 0
theorem ten_le : ∀ n, n < 10 → 10 ^ n ≤ 1000000000 := by decide
theorem gcd_pos (a n : Nat) : 0 < Nat.gcd a (10 ^ n) := Nat.gcd_pos_of_pos_right _ (Nat.pow_pos (by decide))
theorem gcd_le (a : Nat) {n : Nat} (hn : n < 10) : Nat.gcd a (10 ^ n) ≤ 1000000000 := Nat.le_trans (Nat.gcd_le_right _ (Nat.pow_pos (by decide))) (ten_le n hn)
set_option maxRecDepth 100000 in
set_option maxHeartbeats 400000 in
theorem co_risk {h : Mem} {σ : Sg} (C : CR h σ) (r n k p : Int32) : Ct yX9_risk cX9_risk 11 (some .int) 2 51 [.ref 0, .int r, .int n, .int k, .int p] h (Po h (op_risk r n k p σ)) := by
  refine Ct.of (by decide) (Nat.le_of_ble_eq_true rfl) (fun Γ o ρ => ?_)
  show ca_G Γ 11 _ _ [_, _, _, _, _, _, _, _, _, _, _] _
  refine g_iload_n (pc := 0) o dX9_risk_0 rfl ?_
  refine g_iload_n (pc := 1) o dX9_risk_1 rfl ?_
  refine g_callSi (pc := 2) o (c_areRiskBounds r n h) mt_X9_areRiskBounds ms_X9_areRiskBounds lk_X9_201 rfl (by decide) rfl (Nat.le_of_ble_eq_true rfl) dX9_risk_2 ?_
  refine g_if_eq (pc := 5) o 29 dX9_risk_5 (by decide) (fun c5 => ?_) (fun c5 => ?_)
  · skip
    refine g_aload_n (pc := 29) o dX9_risk_29 rfl ?_
    refine g_iconst (pc := 30) o dX9_risk_30 0 rfl ?_
    refine g_callVi (pc := 31) o (c_finding 0 (by decide) h) mt_X9_finding mv_X9_finding lk_X9_58 rfl rfl rfl (by decide) rfl (Nat.le_of_ble_eq_true rfl) dX9_risk_31 ?_
    exact g_iret o ρ dX9_risk_34 (Po.eq (if_neg (fun z => bI_0.mp c5 ⟨z.1, z.2.1⟩)) (Po_fnd C (by decide)))
  · skip
    refine g_iload_n (pc := 8) o dX9_risk_8 rfl ?_
    refine g_if_lt (pc := 9) o 29 dX9_risk_9 (by decide) (fun c9 => ?_) (fun c9 => ?_)
    · skip
      refine g_aload_n (pc := 29) o dX9_risk_29 rfl ?_
      refine g_iconst (pc := 30) o dX9_risk_30 0 rfl ?_
      refine g_callVi (pc := 31) o (c_finding 0 (by decide) h) mt_X9_finding mv_X9_finding lk_X9_58 rfl rfl rfl (by decide) rfl (Nat.le_of_ble_eq_true rfl) dX9_risk_31 ?_
      exact g_iret o ρ dX9_risk_34 (Po.eq (if_neg (fun z => (by have := (lt0 k).mp c9; have := z.2.2.1.1; omega))) (Po_fnd C (by decide)))
    · skip
      refine g_iload_n (pc := 12) o dX9_risk_12 rfl ?_
      refine g_bipush (pc := 13) o dX9_risk_13 9 rfl ?_
      refine g_ic_gt (pc := 15) o 29 dX9_risk_15 (by decide) (fun c15 => ?_) (fun c15 => ?_)
      · skip
        refine g_aload_n (pc := 29) o dX9_risk_29 rfl ?_
        refine g_iconst (pc := 30) o dX9_risk_30 0 rfl ?_
        refine g_callVi (pc := 31) o (c_finding 0 (by decide) h) mt_X9_finding mv_X9_finding lk_X9_58 rfl rfl rfl (by decide) rfl (Nat.le_of_ble_eq_true rfl) dX9_risk_31 ?_
        exact g_iret o ρ dX9_risk_34 (Po.eq (if_neg (fun z => (by have := (gtN k 9 (by decide)).mp c15; have := z.2.2.1.2; omega))) (Po_fnd C (by decide)))
      · skip
        refine g_iload (pc := 18) o dX9_risk_18 rfl ?_
        refine g_if_lt (pc := 20) o 29 dX9_risk_20 (by decide) (fun c20 => ?_) (fun c20 => ?_)
        · skip
          refine g_aload_n (pc := 29) o dX9_risk_29 rfl ?_
          refine g_iconst (pc := 30) o dX9_risk_30 0 rfl ?_
          refine g_callVi (pc := 31) o (c_finding 0 (by decide) h) mt_X9_finding mv_X9_finding lk_X9_58 rfl rfl rfl (by decide) rfl (Nat.le_of_ble_eq_true rfl) dX9_risk_31 ?_
          exact g_iret o ρ dX9_risk_34 (Po.eq (if_neg (fun z => (by have := (lt0 p).mp c20; have := z.2.2.2.1; omega))) (Po_fnd C (by decide)))
        · skip
          refine g_iload (pc := 23) o dX9_risk_23 rfl ?_
          refine g_iconst (pc := 25) o dX9_risk_25 1 rfl ?_
          refine g_ic_le (pc := 26) o 35 dX9_risk_26 (by decide) (fun c26 => ?_) (fun c26 => ?_)
          · skip
            have k0 := bI_n0.mp c5
            have k1 := mt (lt0 k).mpr c9
            have k2 := mt (gtN k 9 (by decide)).mpr c15
            have k3 := mt (lt0 p).mpr c20
            have k4 := (leN p 1 (by decide)).mp c26
            have eq : op_risk r n k p σ = (nI (rkV (ca_n r) (ca_n n) (ca_n k) p), σ) := if_pos ⟨k0.1, k0.2, ⟨by omega, by omega⟩, ⟨by omega, by omega⟩⟩
            rw [eq] at ρ
            obtain ⟨a, ha, rfl, ea⟩ := n_of (x := r) (b := 10) k0.1 (by decide)
            obtain ⟨b, hb, rfl, eb⟩ := n_of (x := n) (b := 9) ⟨by have := k0.2.1; omega, k0.2.2⟩ (by decide)
            obtain ⟨c, hc, rfl, ec⟩ := n_of (x := k) (b := 9) ⟨by omega, by omega⟩ (by decide)
            rw [ea, eb, ec] at ρ
            clear eq
            have l1 := rkN_le a (by omega) b (by omega) c (by omega)
            have l2 := ten_le b (by omega)
            have g0 := gcd_pos (rkN a b c) b
            have g1 := gcd_le (rkN a b c) (n := b) (by omega)
            have cg := c_gcd (rkN a b c) (10 ^ b) (by omega) (by omega) h
            rw [eu_g a (by omega) b (by omega) c (by omega)] at cg
            unfold rkV at ρ
            generalize hA : rkN a b c = A at *
            generalize hT : 10 ^ b = T at *
            generalize hG : Nat.gcd A T = g at *
            have cA := c_riskAbove a b c (by omega) (by omega) (by omega) h
            rw [hA] at cA
            have cT := c_power 10 b (by decide) (by omega) h
            rw [hT] at cT
            refine g_iload_n (pc := 35) o dX9_risk_35 rfl ?_
            refine g_iload_n (pc := 36) o dX9_risk_36 rfl ?_
            refine g_iload_n (pc := 37) o dX9_risk_37 rfl ?_
            refine g_callSl (pc := 38) o (cA) mt_X9_riskAbove ms_X9_riskAbove lk_X9_204 rfl (by decide) rfl (Nat.le_of_ble_eq_true rfl) dX9_risk_38 ?_
            refine g_lstore (pc := 41) o dX9_risk_41 (by decide) ?_
            show ca_G Γ 11 _ _ [_, _, _, _, _, _, _, _, _, _, _] _
            refine g_bipush (pc := 43) o dX9_risk_43 10 rfl ?_
            refine g_iload_n (pc := 45) o dX9_risk_45 rfl ?_
            refine g_callSl (pc := 46) o (cT) mt_X9_power ms_X9_power lk_X9_208 rfl (by decide) rfl (Nat.le_of_ble_eq_true rfl) dX9_risk_46 ?_
            refine g_lstore (pc := 49) o dX9_risk_49 (by decide) ?_
            show ca_G Γ 11 _ _ [_, _, _, _, _, _, _, _, _, _, _] _
            refine g_lload (pc := 51) o dX9_risk_51 rfl ?_
            refine g_lload (pc := 53) o dX9_risk_53 rfl ?_
            refine g_callSl (pc := 55) o (cg) mt_X9_commonDivisor ms_X9_commonDivisor lk_X9_212 rfl (by decide) rfl (Nat.le_of_ble_eq_true rfl) dX9_risk_55 ?_
            refine g_lstore (pc := 58) o dX9_risk_58 (by decide) ?_
            show ca_G Γ 11 _ _ [_, _, _, _, _, _, _, _, _, _, _] _
            refine g_lload (pc := 60) o dX9_risk_60 rfl ?_
            refine g_lconst (pc := 62) o dX9_risk_62 1 rfl ?_
            refine g_lcmp (pc := 63) o dX9_risk_63 ?_
            refine g_if_ge (pc := 64) o 69 dX9_risk_64 (by decide) (fun c64 => ?_) (fun c64 => ?_)
            · skip
              refine g_iload (pc := 69) o dX9_risk_69 rfl ?_
              refine g_if_ne (pc := 71) o 79 dX9_risk_71 (by decide) (fun c71 => ?_) (fun c71 => ?_)
              · skip
                rw [if_neg c71] at ρ
                refine g_lload (pc := 79) o dX9_risk_79 rfl ?_
                refine g_lload (pc := 81) o dX9_risk_81 rfl ?_
                refine g_ldiv (pc := 83) o dX9_risk_83 (lN_ne (by omega) (by omega)) ?_
                rw [pk_lDiv (by omega) g0 (by omega)]
                refine g_l2i (pc := 84) o dX9_risk_84 ?_
                exact g_iret o ρ dX9_risk_85 (Po.mk (lN_i _) C (kM.rf h))
              · skip
                rw [if_pos c71] at ρ
                refine g_lload (pc := 74) o dX9_risk_74 rfl ?_
                refine g_goto (pc := 76) o 81 dX9_risk_76 (by decide) ?_
                refine g_lload (pc := 81) o dX9_risk_81 rfl ?_
                refine g_ldiv (pc := 83) o dX9_risk_83 (lN_ne (by omega) (by omega)) ?_
                rw [pk_lDiv (by omega) g0 (by omega)]
                refine g_l2i (pc := 84) o dX9_risk_84 ?_
                exact g_iret o ρ dX9_risk_85 (Po.mk (lN_i _) C (kM.rf h))
            · skip
              exact absurd ((lg_cmp_ge _ _).mpr ((pk_lLE (a := 1) (b := g) (by decide) (by omega)).mpr g0)) c64
          · skip
            refine g_aload_n (pc := 29) o dX9_risk_29 rfl ?_
            refine g_iconst (pc := 30) o dX9_risk_30 0 rfl ?_
            refine g_callVi (pc := 31) o (c_finding 0 (by decide) h) mt_X9_finding mv_X9_finding lk_X9_58 rfl rfl rfl (by decide) rfl (Nat.le_of_ble_eq_true rfl) dX9_risk_31 ?_
            exact g_iret o ρ dX9_risk_34 (Po.eq (if_neg (fun z => (by have := mt (leN p 1 (by decide)).mpr c26; have := z.2.2.2.2; omega))) (Po_fnd C (by decide)))
/-! the model's -/
def chN (r : Nat) : Nat → Nat → Nat
  | 0, i => if i = 0 then 1 else 0
  | d + 1, i => if i = 0 then chN r d 0 * (10 - r) else if i ≤ d + 1 then chN r d i * (10 - r) + chN r d (i - 1) * r else chN r d i
theorem chs_0 : ∀ n c, n < c → chs n c = 0
  | n, 0, h => by omega
  | n, c + 1, h => by
    show chs n c * (n - c) / (c + 1) = 0
    rcases Nat.lt_or_ge n c with q | q
    · rw [chs_0 n c q]; simp
    · rw [show n - c = 0 by omega]; simp
theorem chs_p : ∀ d, d < 10 → ∀ i, i < 10 → chs (d + 1) (i + 1) = chs d (i + 1) + chs d i := by decide +kernel
theorem chN_t (r : Nat) : ∀ d, d < 10 → ∀ i, i < 10 → chN r d i = chs d i * r ^ i * (10 - r) ^ (d - i)
  | 0, _, i, _ => by
    show (if i = 0 then 1 else 0) = _
    cases i with
    | zero => rfl
    | succ i => rw [if_neg (by omega), chs_0 0 (i + 1) (by omega)]; simp
  | d + 1, hd, i, hi => by
    show (if i = 0 then chN r d 0 * (10 - r) else if i ≤ d + 1 then chN r d i * (10 - r) + chN r d (i - 1) * r else chN r d i) = _
    cases i with
    | zero =>
      rw [if_pos rfl, chN_t r d (by omega) 0 (by omega)]
      show 1 * r ^ 0 * (10 - r) ^ (d - 0) * (10 - r) = 1 * r ^ 0 * (10 - r) ^ (d + 1 - 0)
      rw [Nat.sub_zero, Nat.sub_zero, Nat.pow_succ, Nat.mul_assoc]
    | succ i =>
      rw [if_neg (by omega)]
      rcases Nat.lt_or_ge (d + 1) (i + 1) with q | q
      · rw [if_neg (by omega), chN_t r d (by omega) (i + 1) hi, chs_0 d (i + 1) (by omega), chs_0 (d + 1) (i + 1) q]; simp
      · rw [if_pos q, chN_t r d (by omega) (i + 1) hi, chN_t r d (by omega) (i + 1 - 1) (by omega), chs_p d (by omega) i (by omega)]
        rw [show i + 1 - 1 = i by omega, show d + 1 - (i + 1) = d - i by omega]
        have e2 : chs d i * r ^ i * (10 - r) ^ (d - i) * r = chs d i * (r ^ (i + 1) * (10 - r) ^ (d - i)) := by
          rw [Nat.pow_succ]; simp only [Nat.mul_assoc, Nat.mul_comm, Nat.mul_left_comm]
        have e1 : chs d (i + 1) * r ^ (i + 1) * (10 - r) ^ (d - (i + 1)) * (10 - r) = chs d (i + 1) * (r ^ (i + 1) * (10 - r) ^ (d - i)) := by
          rcases Nat.lt_or_ge i d with w | w
          · rw [show (10 - r) ^ (d - i) = (10 - r) ^ (d - (i + 1)) * (10 - r) from by rw [← Nat.pow_succ]; congr 1; omega, Nat.mul_assoc, Nat.mul_assoc]
          · rw [chs_0 d (i + 1) (by omega)]; simp
        rw [e1, e2, ← Nat.add_mul, Nat.mul_assoc]
set_option maxRecDepth 100000 in
set_option maxHeartbeats 400000 in
theorem lp_rk3 {Γ : Fr} (o : ca_O Γ cX10_risks 6 RX10 0 0) {Pr : Option Value → Mem → Prop} (ρ : ca_R Γ (some .int) Pr) {h : Mem} (r n k : Nat) (hn : n < 10) (hk : k < 10) (e65 : ∀ i, i < 10 → h.1 65 i = nI (tN r n i)) (hp : Pr (some (.int (nI (rkN r n k)))) h) : ∀ i, i ≤ n + 1 → k ≤ i → ∀ (xi y : Int32), xi = nI i → y = nI (rkS r n k i) → ca_G Γ 6 h 119 [some (.ref 51), some (.int (nI r)), some (.int (nI n)), some (.int (nI k)), some (.int y), some (.int xi)] [] := by
  refine downI (n + 1) (fun i hi ih => ?_)
  rintro ki xi y rfl rfl
  refine g_iload (pc := 119) o dX10_risks_119 rfl ?_
  refine g_iload_n (pc := 121) o dX10_risks_121 rfl ?_
  refine g_ic_gt (pc := 122) o 143 dX10_risks_122 (by decide) (fun c122 => ?_) (fun c122 => ?_)
  · skip
    have e1 : i = n + 1 := by have := (nI_ltI (by omega) (by omega)).mp c122; omega
    subst e1
    refine g_iload (pc := 143) o dX10_risks_143 rfl ?_
    exact g_iret o ρ dX10_risks_145 hp
  · skip
    have e1 : i ≤ n := by have := mt (nI_ltI (a := n) (b := i) (by omega) (by omega)).mpr c122; omega
    refine g_iload (pc := 125) o dX10_risks_125 rfl ?_
    refine g_aload_n (pc := 127) o dX10_risks_127 rfl ?_
    refine g_getR (pc := 128) o 18 rfl rfl rfl inX10 (by decide) lf_X10_50 dX10_risks_128 ?_
    refine g_iload (pc := 131) o dX10_risks_131 rfl ?_
    refine n_ialdE (pc := 133) o i (rfl) rfl ((by omega)) (by decide) (e65 i (by omega)) dX10_risks_133 ?_
    refine g_iadd (pc := 134) o dX10_risks_134 ?_
    refine g_istore (pc := 135) o dX10_risks_135 (by decide) ?_
    show ca_G Γ 6 _ _ [_, _, _, _, _, _] _
    refine g_iinc (pc := 137) o dX10_risks_137 rfl 1 rfl (by decide) ?_
    show ca_G Γ 6 _ _ [_, _, _, _, _, _] _
    refine g_goto (pc := 140) o 119 dX10_risks_140 (by decide) ?_
    exact ih (by omega) (by omega) _ _ (nI_1 i) (by rw [rkS_s, if_pos ki, nI_add])
theorem rkS_0 (r n k : Nat) : ∀ m, m ≤ k → rkS r n k m = 0
  | 0, _ => rfl
  | m + 1, h => by rw [rkS_s, rkS_0 r n k m (by omega), if_neg (by omega)]
set_option maxRecDepth 100000 in
set_option maxHeartbeats 400000 in
theorem lp_rk2b {Γ : Fr} (o : ca_O Γ cX10_risks 6 RX10 0 0) {h0 : Mem} (r n k d : Nat) (hr : r < 11) (hd : d < 9) (kk : ∀ (h2 : Mem) (v : Option Value), (∀ i, i < 10 → h2.1 65 i = nI (chN r (d + 1) i)) → (∀ c, c ≠ 65 → h2.1 c = h0.1 c) → ca_G Γ 6 h2 36 [some (.ref 51), some (.int (nI r)), some (.int (nI n)), some (.int (nI k)), some (.int (nI (d + 1))), v] []) : ∀ j, j ≤ d + 1 → ∀ (xj : Int32) (h : Mem), xj = nI j → (∀ i, i < 10 → h.1 65 i = nI (if j < i ∧ i ≤ d + 1 then chN r (d + 1) i else chN r d i)) → (∀ c, c ≠ 65 → h.1 c = h0.1 c) → ca_G Γ 6 h 48 [some (.ref 51), some (.int (nI r)), some (.int (nI n)), some (.int (nI k)), some (.int (nI d)), some (.int xj)] [] := by
  have s1 : (10 : Int32) - nI r = nI (10 - r) := pk_sub (a := 10) (b := r) (by omega)
  intro j
  induction j with
  | zero =>
    rintro _ xj h rfl e1 e2
    refine g_iload (pc := 48) o dX10_risks_48 rfl ?_
    refine g_if_le (pc := 50) o 90 dX10_risks_50 (by decide) (fun c50 => ?_) (fun c50 => ?_)
    · skip
      have z0 : h.1 65 0 = nI (chN r d 0) := by rw [e1 0 (by decide), if_neg (by omega)]
      refine g_aload_n (pc := 90) o dX10_risks_90 rfl ?_
      refine g_getR (pc := 91) o 18 rfl rfl rfl inX10 (by decide) lf_X10_50 dX10_risks_91 ?_
      refine g_iconst (pc := 94) o dX10_risks_94 0 rfl ?_
      refine g_aload_n (pc := 95) o dX10_risks_95 rfl ?_
      refine g_getR (pc := 96) o 18 rfl rfl rfl inX10 (by decide) lf_X10_50 dX10_risks_96 ?_
      refine g_iconst (pc := 99) o dX10_risks_99 0 rfl ?_
      refine n_ialdE (pc := 100) o 0 (rfl) rfl ((by omega)) (by decide) (z0) dX10_risks_100 ?_
      refine g_bipush (pc := 101) o dX10_risks_101 10 rfl ?_
      refine g_iload_n (pc := 103) o dX10_risks_103 rfl ?_
      refine g_isub (pc := 104) o dX10_risks_104 ?_
      rw [s1]
      refine g_imul (pc := 105) o dX10_risks_105 ?_
      rw [pk_mul]
      refine n_iast (pc := 106) o 0 (rfl) rfl ((by omega)) (by decide) dX10_risks_106 ?_
      refine g_iinc (pc := 107) o dX10_risks_107 rfl 1 rfl (by decide) ?_
      show ca_G Γ 6 _ _ [_, _, _, _, _, _] _
      refine g_goto (pc := 110) o 36 dX10_risks_110 (by decide) ?_
      rw [nI_1]
      refine kk _ _ (fun i hi => ?_) (fun c hc => (mw_ne _ _ _ hc).trans (e2 c hc))
      rw [mw_same]
      unfold upd
      by_cases q : i = 0
      · subst q; rw [if_pos rfl]; rfl
      · rw [if_neg q, e1 i hi]
        congr 1
        show _ = (if i = 0 then chN r d 0 * (10 - r) else if i ≤ d + 1 then chN r d i * (10 - r) + chN r d (i - 1) * r else chN r d i)
        by_cases w : i ≤ d + 1
        · rw [if_pos ⟨by omega, w⟩]; rfl
        · rw [if_neg (fun z => w z.2), if_neg q, if_neg w]
    · skip
      exact absurd (by decide) c50
  | succ j ih =>
    rintro hj xj h rfl e1 e2
    refine g_iload (pc := 48) o dX10_risks_48 rfl ?_
    refine g_if_le (pc := 50) o 90 dX10_risks_50 (by decide) (fun c50 => ?_) (fun c50 => ?_)
    · skip
      exact absurd c50 (nI_nle (by omega) (by omega))
    · skip
      have r1 : h.1 65 (j + 1) = nI (chN r d (j + 1)) := by rw [e1 _ (by omega), if_neg (by omega)]
      have r2 : h.1 65 j = nI (chN r d j) := by rw [e1 _ (by omega), if_neg (by omega)]
      have sj : nI (j + 1) - 1 = nI j := nI_pred j
      refine g_aload_n (pc := 53) o dX10_risks_53 rfl ?_
      refine g_getR (pc := 54) o 18 rfl rfl rfl inX10 (by decide) lf_X10_50 dX10_risks_54 ?_
      refine g_iload (pc := 57) o dX10_risks_57 rfl ?_
      refine g_aload_n (pc := 59) o dX10_risks_59 rfl ?_
      refine g_getR (pc := 60) o 18 rfl rfl rfl inX10 (by decide) lf_X10_50 dX10_risks_60 ?_
      refine g_iload (pc := 63) o dX10_risks_63 rfl ?_
      refine n_ialdE (pc := 65) o (j + 1) (rfl) rfl ((by omega)) (by decide) (r1) dX10_risks_65 ?_
      refine g_bipush (pc := 66) o dX10_risks_66 10 rfl ?_
      refine g_iload_n (pc := 68) o dX10_risks_68 rfl ?_
      refine g_isub (pc := 69) o dX10_risks_69 ?_
      rw [s1]
      refine g_imul (pc := 70) o dX10_risks_70 ?_
      refine g_aload_n (pc := 71) o dX10_risks_71 rfl ?_
      refine g_getR (pc := 72) o 18 rfl rfl rfl inX10 (by decide) lf_X10_50 dX10_risks_72 ?_
      refine g_iload (pc := 75) o dX10_risks_75 rfl ?_
      refine g_iconst (pc := 77) o dX10_risks_77 1 rfl ?_
      refine g_isub (pc := 78) o dX10_risks_78 ?_
      rw [sj]
      refine n_ialdE (pc := 79) o j (rfl) rfl ((by omega)) (by decide) (r2) dX10_risks_79 ?_
      refine g_iload_n (pc := 80) o dX10_risks_80 rfl ?_
      refine g_imul (pc := 81) o dX10_risks_81 ?_
      refine g_iadd (pc := 82) o dX10_risks_82 ?_
      rw [pk_mul, pk_mul, nI_add]
      refine n_iast (pc := 83) o (j + 1) (rfl) rfl ((by omega)) (by decide) dX10_risks_83 ?_
      refine g_iinc (pc := 84) o dX10_risks_84 rfl (-1) rfl (by decide) ?_
      show ca_G Γ 6 _ _ [_, _, _, _, _, _] _
      refine g_goto (pc := 87) o 48 dX10_risks_87 (by decide) ?_
      refine ih (by omega) _ _ (pk_m1 j) (fun i hi => ?_) (fun c hc => (mw_ne _ _ _ hc).trans (e2 c hc))
      rw [mw_same]
      unfold upd
      by_cases q : i = j + 1
      · subst q
        rw [if_pos rfl, if_pos ⟨by omega, hj⟩]
        congr 1
        show _ = (if j + 1 = 0 then chN r d 0 * (10 - r) else if j + 1 ≤ d + 1 then chN r d (j + 1) * (10 - r) + chN r d (j + 1 - 1) * r else chN r d (j + 1))
        rw [if_neg (by omega), if_pos hj]
        rfl
      · rw [if_neg q, e1 i hi]
        congr 1
        by_cases w : j + 1 < i ∧ i ≤ d + 1
        · rw [if_pos w, if_pos ⟨by omega, w.2⟩]
        · rw [if_neg w, if_neg (fun z => w ⟨by omega, z.2⟩)]
set_option maxRecDepth 100000 in
set_option maxHeartbeats 400000 in
theorem lp_rk2 {Γ : Fr} (o : ca_O Γ cX10_risks 6 RX10 0 0) {Pr : Option Value → Mem → Prop} (ρ : ca_R Γ (some .int) Pr) {h0 : Mem} (r n k : Nat) (hr : r < 11) (hn : n < 10) (hk : k < 10) (hp : ∀ h : Mem, (∀ c, c ≠ 65 → h.1 c = h0.1 c) → Pr (some (.int (nI (rkN r n k)))) h) : ∀ d, d ≤ n → ∀ (xd : Int32) (h : Mem) (v : Option Value), xd = nI d → (∀ i, i < 10 → h.1 65 i = nI (chN r d i)) → (∀ c, c ≠ 65 → h.1 c = h0.1 c) → ca_G Γ 6 h 36 [some (.ref 51), some (.int (nI r)), some (.int (nI n)), some (.int (nI k)), some (.int xd), v] [] := by
  refine downI n (fun d hd ih => ?_)
  rintro xd h v rfl e1 e2
  refine g_iload (pc := 36) o dX10_risks_36 rfl ?_
  refine g_iload_n (pc := 38) o dX10_risks_38 rfl ?_
  refine g_ic_ge (pc := 39) o 113 dX10_risks_39 (by decide) (fun c39 => ?_) (fun c39 => ?_)
  · skip
    have q : d = n := ge8 (n := n) (by omega) (by omega) c39
    subst q
    refine g_iconst (pc := 113) o dX10_risks_113 0 rfl ?_
    refine g_istore (pc := 114) o dX10_risks_114 (by decide) ?_
    show ca_G Γ 6 _ _ [_, _, _, _, _, _] _
    refine g_iload_n (pc := 116) o dX10_risks_116 rfl ?_
    refine g_istore (pc := 117) o dX10_risks_117 (by decide) ?_
    show ca_G Γ 6 _ _ [_, _, _, _, _, _] _
    rcases Nat.lt_or_ge d k with w | w
    · skip
      refine g_iload (pc := 119) o dX10_risks_119 rfl ?_
      refine g_iload_n (pc := 121) o dX10_risks_121 rfl ?_
      refine g_ic_gt (pc := 122) o 143 dX10_risks_122 (by decide) (fun c122 => ?_) (fun c122 => ?_)
      · skip
        have z : rkN r d k = 0 := rkS_0 r d k (d + 1) w
        refine g_iload (pc := 143) o dX10_risks_143 rfl ?_
        exact g_iret o ρ dX10_risks_145 (by have := hp h e2; rw [z] at this; exact this)
      · skip
        exact absurd ((nI_ltI (a := d) (b := k) (by omega) (by omega)).mpr w) c122
    · exact lp_rk3 o ρ r d k hn hk (fun i hi => (e1 i hi).trans (congrArg nI (chN_t r d hn i hi))) (hp h e2) k (by omega) (Nat.le_refl _) _ _ rfl (by rw [rkS_0 r d k k (Nat.le_refl _)]; rfl)
  · skip
    have q : d < n := lt8 (n := n) (by omega) (by omega) c39
    refine g_iload (pc := 42) o dX10_risks_42 rfl ?_
    refine g_iconst (pc := 44) o dX10_risks_44 1 rfl ?_
    refine g_iadd (pc := 45) o dX10_risks_45 ?_
    refine g_istore (pc := 46) o dX10_risks_46 (by decide) ?_
    show ca_G Γ 6 _ _ [_, _, _, _, _, _] _
    exact lp_rk2b o r n k d hr (by omega) (fun h2 v a b => ih q _ h2 v rfl a b) (d + 1) (Nat.le_refl _) _ h (nI_1 d) (fun i hi => by rw [if_neg (by omega)]; exact e1 i hi) e2
set_option maxRecDepth 100000 in
set_option maxHeartbeats 400000 in
theorem lp_rk1 {Γ : Fr} (o : ca_O Γ cX10_risks 6 RX10 0 0) {Pr : Option Value → Mem → Prop} (ρ : ca_R Γ (some .int) Pr) {h0 : Mem} (r n k : Nat) (hr : r < 11) (hn : n < 10) (hk : k < 10) (hp : ∀ h : Mem, (∀ c, c ≠ 65 → h.1 c = h0.1 c) → Pr (some (.int (nI (rkN r n k)))) h) : ∀ i, i ≤ 10 → ∀ (xi : Int32) (h : Mem) (v : Option Value), xi = nI i → (∀ j, j < i → h.1 65 j = nI (chN r 0 j)) → (∀ c, c ≠ 65 → h.1 c = h0.1 c) → ca_G Γ 6 h 3 [some (.ref 51), some (.int (nI r)), some (.int (nI n)), some (.int (nI k)), some (.int xi), v] [] := by
  refine downI 10 (fun i hi ih => ?_)
  rintro xi h v rfl e1 e2
  refine g_iload (pc := 3) o dX10_risks_3 rfl ?_
  refine g_bipush (pc := 5) o dX10_risks_5 10 rfl ?_
  refine g_ic_ge (pc := 7) o 33 dX10_risks_7 (by decide) (fun c7 => ?_) (fun c7 => ?_)
  · skip
    have q : i = 10 := ge8 (n := 10) (by omega) (by omega) c7
    subst q
    refine g_iconst (pc := 33) o dX10_risks_33 0 rfl ?_
    refine g_istore (pc := 34) o dX10_risks_34 (by decide) ?_
    show ca_G Γ 6 _ _ [_, _, _, _, _, _] _
    exact lp_rk2 o ρ r n k hr hn hk hp 0 (by omega) _ h v rfl e1 e2
  · skip
    have q : i < 10 := lt8 (n := 10) (by omega) (by omega) c7
    have fin : ∀ w : Int32, w = nI (chN r 0 i) → ca_G Γ 6 h 26 [some (.ref 51), some (.int (nI r)), some (.int (nI n)), some (.int (nI k)), some (.int (nI i)), v] [.int w, .int (nI i), .ref 65] := by
      intro w ew
      refine n_iast (pc := 26) o i (rfl) rfl ((by omega)) (by decide) dX10_risks_26 ?_
      refine g_iinc (pc := 27) o dX10_risks_27 rfl 1 rfl (by decide) ?_
      show ca_G Γ 6 _ _ [_, _, _, _, _, _] _
      refine g_goto (pc := 30) o 3 dX10_risks_30 (by decide) ?_
      refine ih q _ _ v (nI_1 i) (fun j hj => ?_) (fun c hc => (mw_ne _ _ _ hc).trans (e2 c hc))
      rw [mw_same]
      unfold upd
      by_cases z : j = i
      · subst z; rw [if_pos rfl]; exact ew
      · rw [if_neg z]; exact e1 j (by omega)
    refine g_aload_n (pc := 10) o dX10_risks_10 rfl ?_
    refine g_getR (pc := 11) o 18 rfl rfl rfl inX10 (by decide) lf_X10_50 dX10_risks_11 ?_
    refine g_iload (pc := 14) o dX10_risks_14 rfl ?_
    refine g_iload (pc := 16) o dX10_risks_16 rfl ?_
    refine g_if_ne (pc := 18) o 25 dX10_risks_18 (by decide) (fun c18 => ?_) (fun c18 => ?_)
    · skip
      refine g_iconst (pc := 25) o dX10_risks_25 0 rfl ?_
      exact fin _ (by show (0 : Int32) = nI (if i = 0 then 1 else 0); rw [if_neg (fun z => c18 (by rw [z]; rfl))]; rfl)
    · skip
      refine g_iconst (pc := 21) o dX10_risks_21 1 rfl ?_
      refine g_goto (pc := 22) o 26 dX10_risks_22 (by decide) ?_
      exact fin _ (by have z : i = 0 := (nI_eq (b := 0) (by omega) (by decide)).mp c18; rw [z]; rfl)
set_option maxRecDepth 100000 in
set_option maxHeartbeats 400000 in
theorem m_risks (r n k : Nat) (hr : r < 11) (hn : n < 10) (hk : k < 10) (h : Mem) : Ct yX10_risks cX10_risks 6 (some .int) 0 0 [.ref 51, .int (nI r), .int (nI n), .int (nI k)] h (Qi (fun x h2 => x = nI (rkN r n k) ∧ ∀ c, c ≠ 65 → h2.1 c = h.1 c)) := by
  refine Ct.of (by decide) (Nat.le_of_ble_eq_true rfl) (fun Γ o ρ => ?_)
  show ca_G Γ 6 _ _ [_, _, _, _, _, _] _
  refine g_iconst (pc := 0) o dX10_risks_0 0 rfl ?_
  refine g_istore (pc := 1) o dX10_risks_1 (by decide) ?_
  show ca_G Γ 6 _ _ [_, _, _, _, _, _] _
  exact lp_rk1 o ρ (h0 := h) r n k hr hn hk (fun h2 e => ⟨_, rfl, rfl, e⟩) 0 (by omega) _ h _ rfl (fun j hj => by omega) (fun c hc => rfl)
set_option maxRecDepth 100000 in
theorem lp_tens {Γ : Fr} (o : ca_O Γ cX10_tens 3 RX10 0 0) {Pr : Option Value → Mem → Prop} (ρ : ca_R Γ (some .int) Pr) {h : Mem} (n : Nat) (hn : n < 2 ^ 30) (hp : Pr (some (.int (nI (10 ^ n)))) h) : ∀ i, i ≤ n → ∀ (xi y : Int32), xi = nI i → y = nI (10 ^ i) → ca_G Γ 3 h 4 [some (.int (nI n)), some (.int y), some (.int xi)] [] := by
  refine downI n (fun i hi ih => ?_)
  rintro xi y rfl rfl
  refine g_iload_n (pc := 4) o dX10_tens_4 rfl ?_
  refine g_iload_n (pc := 5) o dX10_tens_5 rfl ?_
  refine g_ic_ge (pc := 6) o 20 dX10_tens_6 (by decide) (fun c6 => ?_) (fun c6 => ?_)
  · skip
    have e1 : i = n := ge8 (n := n) (by omega) (by omega) c6
    subst e1
    refine g_iload_n (pc := 20) o dX10_tens_20 rfl ?_
    exact g_iret o ρ dX10_tens_21 hp
  · skip
    have e1 : i < n := lt8 (n := n) (by omega) (by omega) c6
    refine g_iload_n (pc := 9) o dX10_tens_9 rfl ?_
    refine g_bipush (pc := 10) o dX10_tens_10 10 rfl ?_
    refine g_imul (pc := 12) o dX10_tens_12 ?_
    refine g_istore_n (pc := 13) o dX10_tens_13 (by decide) ?_
    show ca_G Γ 3 _ _ [_, _, _] _
    refine g_iinc (pc := 14) o dX10_tens_14 rfl 1 rfl (by decide) ?_
    show ca_G Γ 3 _ _ [_, _, _] _
    refine g_goto (pc := 17) o 4 dX10_tens_17 (by decide) ?_
    exact ih e1 _ _ (nI_1 i) (by rw [Nat.pow_succ]; exact pk_mul _ _)
set_option maxRecDepth 100000 in
set_option maxHeartbeats 400000 in
theorem m_tens (n : Nat) (hn : n < 2 ^ 30) (h : Mem) : Ct yX10_tens cX10_tens 3 (some .int) 0 0 [.int (nI n)] h (Ei (nI (10 ^ n)) h) := by
  refine Ct.of (by decide) (Nat.le_of_ble_eq_true rfl) (fun Γ o ρ => ?_)
  show ca_G Γ 3 _ _ [_, _, _] _
  refine g_iconst (pc := 0) o dX10_tens_0 1 rfl ?_
  refine g_istore_n (pc := 1) o dX10_tens_1 (by decide) ?_
  show ca_G Γ 3 _ _ [_, _, _] _
  refine g_iconst (pc := 2) o dX10_tens_2 0 rfl ?_
  refine g_istore_n (pc := 3) o dX10_tens_3 (by decide) ?_
  show ca_G Γ 3 _ _ [_, _, _] _
  exact lp_tens o ρ n hn ⟨rfl, rfl⟩ 0 (by omega) 0 1 rfl rfl
set_option maxRecDepth 100000 in
set_option maxHeartbeats 400000 in
theorem lp_mgcd {Γ : Fr} (o : ca_O Γ cX10_risk 10 RX10 1 25) {h : Mem} (x1 x2 x3 x4 x5 x6 : Int32) (g : Nat) (k : ∀ (v w : Option Value), ca_G Γ 10 h 100 [some (.ref 51), some (.int x1), some (.int x2), some (.int x3), some (.int x4), some (.int x5), some (.int x6), some (.int (nI g)), v, w] []) : ∀ n b, b < n → ∀ (a : Nat) (j9 : Option Value), a < 2 ^ 31 → b < 2 ^ 31 → Nat.gcd a b = g → ca_G Γ 10 h 77 [some (.ref 51), some (.int x1), some (.int x2), some (.int x3), some (.int x4), some (.int x5), some (.int x6), some (.int (nI a)), some (.int (nI b)), j9] [] := by
  intro n
  induction n with
  | zero => intro b hb; exact absurd hb (Nat.not_lt_zero b)
  | succ n ih =>
    intro b hb a j9 ha hb2 e
    refine g_iload (pc := 77) o dX10_risk_77 rfl ?_
    refine g_if_le (pc := 79) o 100 dX10_risk_79 (by decide) (fun c79 => ?_) (fun c79 => ?_)
    · skip
      have b0 : b = 0 := Classical.byContradiction (fun z => by obtain ⟨c, rfl⟩ := Nat.exists_eq_succ_of_ne_zero z; exact nI_nle (by omega) (by omega) c79)
      subst b0
      rw [Nat.gcd_zero_right] at e
      subst e
      exact k _ _
    · skip
      have b0 : ¬ b = 0 := fun q => c79 (by rw [q]; decide)
      refine g_iload (pc := 82) o dX10_risk_82 rfl ?_
      refine g_iload (pc := 84) o dX10_risk_84 rfl ?_
      refine g_irem (pc := 86) o dX10_risk_86 (fun z => b0 ((nI_eq (b := 0) hb2 (by decide)).mp z)) ?_
      rw [show jrem (nI a) (nI b) = nI (a % b) from pk_rem ha (by omega) hb2]
      refine g_istore (pc := 87) o dX10_risk_87 (by decide) ?_
      show ca_G Γ 10 _ _ [_, _, _, _, _, _, _, _, _, _] _
      refine g_iload (pc := 89) o dX10_risk_89 rfl ?_
      refine g_istore (pc := 91) o dX10_risk_91 (by decide) ?_
      show ca_G Γ 10 _ _ [_, _, _, _, _, _, _, _, _, _] _
      refine g_iload (pc := 93) o dX10_risk_93 rfl ?_
      refine g_istore (pc := 95) o dX10_risk_95 (by decide) ?_
      show ca_G Γ 10 _ _ [_, _, _, _, _, _, _, _, _, _] _
      refine g_goto (pc := 97) o 77 dX10_risk_97 (by decide) ?_
      exact ih (a % b) (Nat.lt_of_lt_of_le (Nat.mod_lt _ (by omega)) (by omega)) b _ hb2 (Nat.lt_trans (Nat.mod_lt _ (by omega)) hb2) (by rw [← e, Nat.gcd_comm a b, Nat.gcd_rec b a, Nat.gcd_comm])
theorem abs_65 {h h2 : Mem} (e : ∀ c, c ≠ 65 → h2.1 c = h.1 c) : absM h2 = absM h := (abs_s (fun k hk => e k (fun z => by subst z; revert hk; decide))).trans (by rw [e 52 (by decide)]; funext k; unfold sf; split <;> rename_i q <;> first | (rw [q]; rfl) | rfl)
theorem kC_65 {h h2 : Mem} (e : ∀ c, c ≠ 65 → h2.1 c = h.1 c) : kC h h2 := fun k hk => e k (by omega)
set_option maxRecDepth 100000 in
set_option maxHeartbeats 400000 in
theorem mo_risk {h : Mem} (r n k p : Int32) : Ct yX10_risk cX10_risk 10 (some .int) 1 25 [.ref 51, .int r, .int n, .int k, .int p] h (Pm h (op_risk r n k p (absM h))) := by
  refine Ct.of (by decide) (Nat.le_of_ble_eq_true rfl) (fun Γ o ρ => ?_)
  show ca_G Γ 10 _ _ [_, _, _, _, _, _, _, _, _, _] _
  have d1 := in_rng r 0 10 (by decide)
  have d2 := in_rng n 1 9 (by decide)
  have d3 := in_rng k 0 9 (by decide)
  have d4 := in_rng p 0 1 (by decide)
  refine g_iload_n (pc := 0) o dX10_risk_0 rfl ?_
  refine g_i2l (pc := 1) o dX10_risk_1 ?_
  refine g_lconst (pc := 2) o dX10_risk_2 0 rfl ?_
  refine g_ldc2 (pc := 3) o dX10_risk_3 lc_X10_207 ?_
  refine g_callSi (pc := 6) o (m_in r.toInt64 0 10 h) mt_X10_in ms_X10_in lk_X10_71 rfl (by decide) rfl (Nat.le_of_ble_eq_true rfl) dX10_risk_6 ?_
  refine g_if_eq (pc := 9) o 47 dX10_risk_9 (by decide) (fun c9 => ?_) (fun c9 => ?_)
  · skip
    refine g_aload_n (pc := 47) o dX10_risk_47 rfl ?_
    refine g_ldc (pc := 48) o dX10_risk_48 lc_X10_68 ?_
    refine g_callVi (pc := 50) o (m_finds 0 (by decide) h) mt_X10_finds mv_X10_finds lk_X10_86 rfl rfl rfl (by decide) rfl (Nat.le_of_ble_eq_true rfl) dX10_risk_50 ?_
    exact g_iret o ρ dX10_risk_53 (Pm.eq (if_neg (fun z => (by rw [d1] at c9; exact bI_0.mp c9 z.1))) (Pm_fnd rfl (kC.rf h) (by decide)))
  · skip
    refine g_iload_n (pc := 12) o dX10_risk_12 rfl ?_
    refine g_i2l (pc := 13) o dX10_risk_13 ?_
    refine g_lconst (pc := 14) o dX10_risk_14 1 rfl ?_
    refine g_ldc2 (pc := 15) o dX10_risk_15 lc_X10_209 ?_
    refine g_callSi (pc := 18) o (m_in n.toInt64 1 9 h) mt_X10_in ms_X10_in lk_X10_71 rfl (by decide) rfl (Nat.le_of_ble_eq_true rfl) dX10_risk_18 ?_
    refine g_if_eq (pc := 21) o 47 dX10_risk_21 (by decide) (fun c21 => ?_) (fun c21 => ?_)
    · skip
      refine g_aload_n (pc := 47) o dX10_risk_47 rfl ?_
      refine g_ldc (pc := 48) o dX10_risk_48 lc_X10_68 ?_
      refine g_callVi (pc := 50) o (m_finds 0 (by decide) h) mt_X10_finds mv_X10_finds lk_X10_86 rfl rfl rfl (by decide) rfl (Nat.le_of_ble_eq_true rfl) dX10_risk_50 ?_
      exact g_iret o ρ dX10_risk_53 (Pm.eq (if_neg (fun z => (by rw [d2] at c21; exact bI_0.mp c21 z.2.1))) (Pm_fnd rfl (kC.rf h) (by decide)))
    · skip
      refine g_iload_n (pc := 24) o dX10_risk_24 rfl ?_
      refine g_i2l (pc := 25) o dX10_risk_25 ?_
      refine g_lconst (pc := 26) o dX10_risk_26 0 rfl ?_
      refine g_ldc2 (pc := 27) o dX10_risk_27 lc_X10_209 ?_
      refine g_callSi (pc := 30) o (m_in k.toInt64 0 9 h) mt_X10_in ms_X10_in lk_X10_71 rfl (by decide) rfl (Nat.le_of_ble_eq_true rfl) dX10_risk_30 ?_
      refine g_if_eq (pc := 33) o 47 dX10_risk_33 (by decide) (fun c33 => ?_) (fun c33 => ?_)
      · skip
        refine g_aload_n (pc := 47) o dX10_risk_47 rfl ?_
        refine g_ldc (pc := 48) o dX10_risk_48 lc_X10_68 ?_
        refine g_callVi (pc := 50) o (m_finds 0 (by decide) h) mt_X10_finds mv_X10_finds lk_X10_86 rfl rfl rfl (by decide) rfl (Nat.le_of_ble_eq_true rfl) dX10_risk_50 ?_
        exact g_iret o ρ dX10_risk_53 (Pm.eq (if_neg (fun z => (by rw [d3] at c33; exact bI_0.mp c33 z.2.2.1))) (Pm_fnd rfl (kC.rf h) (by decide)))
      · skip
        refine g_iload (pc := 36) o dX10_risk_36 rfl ?_
        refine g_i2l (pc := 38) o dX10_risk_38 ?_
        refine g_lconst (pc := 39) o dX10_risk_39 0 rfl ?_
        refine g_lconst (pc := 40) o dX10_risk_40 1 rfl ?_
        refine g_callSi (pc := 41) o (m_in p.toInt64 0 1 h) mt_X10_in ms_X10_in lk_X10_71 rfl (by decide) rfl (Nat.le_of_ble_eq_true rfl) dX10_risk_41 ?_
        refine g_if_ne (pc := 44) o 54 dX10_risk_44 (by decide) (fun c44 => ?_) (fun c44 => ?_)
        · skip
          rw [d1] at c9
          rw [d2] at c21
          rw [d3] at c33
          rw [d4] at c44
          have k1 := bI_n0.mp c9
          have k2 := bI_n0.mp c21
          have k3 := bI_n0.mp c33
          have eq : op_risk r n k p (absM h) = (nI (rkV (ca_n r) (ca_n n) (ca_n k) p), absM h) := if_pos ⟨k1, k2, k3, bI_n0.mp c44⟩
          rw [eq] at ρ
          obtain ⟨a, ha, rfl, ea⟩ := n_of (x := r) (b := 10) k1 (by decide)
          obtain ⟨b, hb, rfl, eb⟩ := n_of (x := n) (b := 9) ⟨by have := k2.1; have e : (1 : Int64).toInt = 1 := rfl; omega, k2.2⟩ (by decide)
          obtain ⟨c, hc, rfl, ec⟩ := n_of (x := k) (b := 9) k3 (by decide)
          rw [ea, eb, ec] at ρ
          clear eq
          have l1 := rkN_le a (by omega) b (by omega) c (by omega)
          have l2 := ten_le b (by omega)
          have g0 := gcd_pos (rkN a b c) b
          have g1 := gcd_le (rkN a b c) (n := b) (by omega)
          unfold rkV at ρ
          have cA := m_risks a b c (by omega) (by omega) (by omega) h
          have cT := m_tens b (by omega)
          generalize hA : rkN a b c = A at *
          generalize hT : 10 ^ b = T at *
          generalize hG : Nat.gcd A T = g at *
          refine g_aload_n (pc := 54) o dX10_risk_54 rfl ?_
          refine g_iload_n (pc := 55) o dX10_risk_55 rfl ?_
          refine g_iload_n (pc := 56) o dX10_risk_56 rfl ?_
          refine g_iload_n (pc := 57) o dX10_risk_57 rfl ?_
          refine g_callVQi (pc := 58) o (cA) mt_X10_risks mv_X10_risks lk_X10_211 rfl rfl rfl (by decide) rfl (Nat.le_of_ble_eq_true rfl) dX10_risk_58 ?_
          rintro x h2 q1
          refine g_istore (pc := 61) o dX10_risk_61 (by decide) ?_
          show ca_G Γ 10 _ _ [_, _, _, _, _, _, _, _, _, _] _
          obtain ⟨rfl, q2⟩ := q1
          refine g_iload_n (pc := 63) o dX10_risk_63 rfl ?_
          refine g_callSi (pc := 64) o (cT h2) mt_X10_tens ms_X10_tens lk_X10_214 rfl (by decide) rfl (Nat.le_of_ble_eq_true rfl) dX10_risk_64 ?_
          refine g_istore (pc := 67) o dX10_risk_67 (by decide) ?_
          show ca_G Γ 10 _ _ [_, _, _, _, _, _, _, _, _, _] _
          refine g_iload (pc := 69) o dX10_risk_69 rfl ?_
          refine g_istore (pc := 71) o dX10_risk_71 (by decide) ?_
          show ca_G Γ 10 _ _ [_, _, _, _, _, _, _, _, _, _] _
          refine g_iload (pc := 73) o dX10_risk_73 rfl ?_
          refine g_istore (pc := 75) o dX10_risk_75 (by decide) ?_
          show ca_G Γ 10 _ _ [_, _, _, _, _, _, _, _, _, _] _
          refine lp_mgcd o _ _ _ _ _ _ g (fun v w => ?_) (T + 1) T (by omega) A _ (by omega) (by omega) hG
          have gz : ¬ nI g = 0 := fun z => absurd ((nI_eq (b := 0) (by omega) (by decide)).mp z) (by omega)
          refine g_iload (pc := 100) o dX10_risk_100 rfl ?_
          refine g_if_ne (pc := 102) o 113 dX10_risk_102 (by decide) (fun c102 => ?_) (fun c102 => ?_)
          · skip
            rw [if_neg c102] at ρ
            refine g_iload (pc := 113) o dX10_risk_113 rfl ?_
            refine g_iload (pc := 115) o dX10_risk_115 rfl ?_
            refine g_idiv (pc := 117) o dX10_risk_117 gz ?_
            rw [pk_div (by omega) g0 (by omega)]
            exact g_iret o ρ dX10_risk_118 (Pm.mk rfl (abs_65 q2) (kC_65 q2))
          · skip
            rw [if_pos c102] at ρ
            refine g_iload (pc := 105) o dX10_risk_105 rfl ?_
            refine g_iload (pc := 107) o dX10_risk_107 rfl ?_
            refine g_idiv (pc := 109) o dX10_risk_109 gz ?_
            refine g_goto (pc := 110) o 118 dX10_risk_110 (by decide) ?_
            rw [pk_div (by omega) g0 (by omega)]
            exact g_iret o ρ dX10_risk_118 (Pm.mk rfl (abs_65 q2) (kC_65 q2))
        · skip
          refine g_aload_n (pc := 47) o dX10_risk_47 rfl ?_
          refine g_ldc (pc := 48) o dX10_risk_48 lc_X10_68 ?_
          refine g_callVi (pc := 50) o (m_finds 0 (by decide) h) mt_X10_finds mv_X10_finds lk_X10_86 rfl rfl rfl (by decide) rfl (Nat.le_of_ble_eq_true rfl) dX10_risk_50 ?_
          exact g_iret o ρ dX10_risk_53 (Pm.eq (if_neg (fun z => (by rw [d4] at c44; exact bI_0.mp c44 z.2.2.2))) (Pm_fnd rfl (kC.rf h) (by decide)))
/-! ===== strict ===== -/
def strF (r n a : Nat) : Nat → Nat → Option Nat
  | 0, _ => none
  | m + 1, k => if 100 * rkN r n k ≤ a * 10 ^ n then some k else strF r n a m (k + 1)
theorem strF_s (r n a m k : Nat) : strF r n a (m + 1) k = if 100 * rkN r n k ≤ a * 10 ^ n then some k else strF r n a m (k + 1) := rfl
def stV (x : Option Nat) (σ : Sg) : Int32 × Sg := match x with
  | some k => (nI k, σ)
  | none => fnd σ 3
def op_strict (r n a : Int32) (σ : Sg) : Int32 × Sg := if rng r 0 10 ∧ rng n 1 9 ∧ rng a 0 100 then stV (strF (ca_n r) (ca_n n) (ca_n a) 9 1) σ else fnd σ 0
set_option maxRecDepth 100000 in
set_option maxHeartbeats 400000 in
theorem lp_strict {Γ : Fr} (o : ca_O Γ cX9_strict 5 RX9 2 51) {σ : Sg} {h : Mem} (C : CR h σ) (r n a : Nat) (hr : r < 11) (hn : n < 10) (ha : a ≤ 100) (z : Option Nat) (ρ : ca_R Γ (some .int) (Po h (stV z σ))) : ∀ i, i ≤ 10 → 1 ≤ i → ∀ (xi : Int32), xi = nI i → strF r n a (10 - i) i = z → ca_G Γ 5 h 27 [some (.ref 0), some (.int (nI r)), some (.int (nI n)), some (.int (nI a)), some (.int xi)] [] := by
  refine downI 10 (fun i hi ih => ?_)
  rintro i1 xi rfl e
  have l2 := ten_le n hn
  refine g_iload (pc := 27) o dX9_strict_27 rfl ?_
  refine g_bipush (pc := 29) o dX9_strict_29 9 rfl ?_
  refine g_ic_gt (pc := 31) o 67 dX9_strict_31 (by decide) (fun c31 => ?_) (fun c31 => ?_)
  · skip
    have e1 : i = 10 := by have := (nI_ltI (a := 9) (b := i) (by decide) (by omega)).mp c31; omega
    subst e1
    have e : none = z := e
    subst e
    refine g_aload_n (pc := 67) o dX9_strict_67 rfl ?_
    refine g_iconst (pc := 68) o dX9_strict_68 3 rfl ?_
    refine g_callVi (pc := 69) o (c_finding 3 (by decide) h) mt_X9_finding mv_X9_finding lk_X9_58 rfl rfl rfl (by decide) rfl (Nat.le_of_ble_eq_true rfl) dX9_strict_69 ?_
    exact g_iret o ρ dX9_strict_72 (Po_fnd C (by decide))
  · skip
    have e1 : i ≤ 9 := by have := mt (nI_ltI (a := 9) (b := i) (by decide) (by omega)).mpr c31; omega
    have l1 := rkN_le r hr n hn i (by omega)
    rw [show 10 - i = (10 - (i + 1)) + 1 by omega, strF_s] at e
    have la : a * 10 ^ n ≤ 100 * 1000000000 := Nat.mul_le_mul ha l2
    refine g_iload_n (pc := 34) o dX9_strict_34 rfl ?_
    refine g_iload_n (pc := 35) o dX9_strict_35 rfl ?_
    refine g_iload (pc := 36) o dX9_strict_36 rfl ?_
    refine g_callSl (pc := 38) o (c_riskAbove r n i hr hn (by omega) h) mt_X9_riskAbove ms_X9_riskAbove lk_X9_204 rfl (by decide) rfl (Nat.le_of_ble_eq_true rfl) dX9_strict_38 ?_
    refine g_ldc2 (pc := 41) o dX9_strict_41 lc_X9_216 ?_
    refine g_lmul (pc := 44) o dX9_strict_44 ?_
    refine g_iload_n (pc := 45) o dX9_strict_45 rfl ?_
    refine g_i2l (pc := 46) o dX9_strict_46 ?_
    refine g_bipush (pc := 47) o dX9_strict_47 10 rfl ?_
    refine g_iload_n (pc := 49) o dX9_strict_49 rfl ?_
    refine g_callSl (pc := 50) o (c_power 10 n (by decide) (by omega) h) mt_X9_power ms_X9_power lk_X9_208 rfl (by decide) rfl (Nat.le_of_ble_eq_true rfl) dX9_strict_50 ?_
    refine g_lmul (pc := 53) o dX9_strict_53 ?_
    rw [nI_l (by omega), lN_mul, show (100 : Int64) = lN 100 from rfl, lN_mul]
    refine g_lcmp (pc := 54) o dX9_strict_54 ?_
    refine g_if_gt (pc := 55) o 61 dX9_strict_55 (by decide) (fun c55 => ?_) (fun c55 => ?_)
    · skip
      have q : ¬ 100 * rkN r n i ≤ a * 10 ^ n := by
        have := (pk_lLT (a := a * 10 ^ n) (b := rkN r n i * 100) (by omega) (by omega)).mp ((lg_cmp_gt _ _).mp c55)
        omega
      rw [if_neg q] at e
      refine g_iinc (pc := 61) o dX9_strict_61 rfl 1 rfl (by decide) ?_
      show ca_G Γ 5 _ _ [_, _, _, _, _] _
      refine g_goto (pc := 64) o 27 dX9_strict_64 (by decide) ?_
      exact ih (by omega) (by omega) _ (nI_1 i) e
    · skip
      have q : 100 * rkN r n i ≤ a * 10 ^ n := by
        have := mt (pk_lLT (a := a * 10 ^ n) (b := rkN r n i * 100) (by omega) (by omega)).mpr (fun w => c55 ((lg_cmp_gt _ _).mpr w))
        omega
      rw [if_pos q] at e
      subst e
      refine g_iload (pc := 58) o dX9_strict_58 rfl ?_
      exact g_iret o ρ dX9_strict_60 (Po.mk rfl C (kM.rf h))
set_option maxRecDepth 100000 in
set_option maxHeartbeats 400000 in
theorem co_strict {h : Mem} {σ : Sg} (C : CR h σ) (r n a : Int32) : Ct yX9_strict cX9_strict 5 (some .int) 2 51 [.ref 0, .int r, .int n, .int a] h (Po h (op_strict r n a σ)) := by
  refine Ct.of (by decide) (Nat.le_of_ble_eq_true rfl) (fun Γ o ρ => ?_)
  show ca_G Γ 5 _ _ [_, _, _, _, _] _
  refine g_iload_n (pc := 0) o dX9_strict_0 rfl ?_
  refine g_iload_n (pc := 1) o dX9_strict_1 rfl ?_
  refine g_callSi (pc := 2) o (c_areRiskBounds r n h) mt_X9_areRiskBounds ms_X9_areRiskBounds lk_X9_201 rfl (by decide) rfl (Nat.le_of_ble_eq_true rfl) dX9_strict_2 ?_
  refine g_if_eq (pc := 5) o 18 dX9_strict_5 (by decide) (fun c5 => ?_) (fun c5 => ?_)
  · skip
    refine g_aload_n (pc := 18) o dX9_strict_18 rfl ?_
    refine g_iconst (pc := 19) o dX9_strict_19 0 rfl ?_
    refine g_callVi (pc := 20) o (c_finding 0 (by decide) h) mt_X9_finding mv_X9_finding lk_X9_58 rfl rfl rfl (by decide) rfl (Nat.le_of_ble_eq_true rfl) dX9_strict_20 ?_
    exact g_iret o ρ dX9_strict_23 (Po.eq (if_neg (fun z => bI_0.mp c5 ⟨z.1, z.2.1⟩)) (Po_fnd C (by decide)))
  · skip
    refine g_iload_n (pc := 8) o dX9_strict_8 rfl ?_
    refine g_if_lt (pc := 9) o 18 dX9_strict_9 (by decide) (fun c9 => ?_) (fun c9 => ?_)
    · skip
      refine g_aload_n (pc := 18) o dX9_strict_18 rfl ?_
      refine g_iconst (pc := 19) o dX9_strict_19 0 rfl ?_
      refine g_callVi (pc := 20) o (c_finding 0 (by decide) h) mt_X9_finding mv_X9_finding lk_X9_58 rfl rfl rfl (by decide) rfl (Nat.le_of_ble_eq_true rfl) dX9_strict_20 ?_
      exact g_iret o ρ dX9_strict_23 (Po.eq (if_neg (fun z => (by have := (lt0 a).mp c9; have := z.2.2.1; omega))) (Po_fnd C (by decide)))
    · skip
      refine g_iload_n (pc := 12) o dX9_strict_12 rfl ?_
      refine g_bipush (pc := 13) o dX9_strict_13 100 rfl ?_
      refine g_ic_le (pc := 15) o 24 dX9_strict_15 (by decide) (fun c15 => ?_) (fun c15 => ?_)
      · skip
        have k0 := bI_n0.mp c5
        have k1 := mt (lt0 a).mpr c9
        have k2 := (leN a 100 (by decide)).mp c15
        have eq : op_strict r n a σ = stV (strF (ca_n r) (ca_n n) (ca_n a) 9 1) σ := if_pos ⟨k0.1, k0.2, ⟨by omega, by omega⟩⟩
        rw [eq] at ρ
        obtain ⟨x, hx, rfl, ex⟩ := n_of (x := r) (b := 10) k0.1 (by decide)
        obtain ⟨y, hy, rfl, ey⟩ := n_of (x := n) (b := 9) ⟨by have := k0.2.1; omega, k0.2.2⟩ (by decide)
        obtain ⟨z, hz, rfl, ez⟩ := n_of (x := a) (b := 100) ⟨by omega, by omega⟩ (by decide)
        rw [ex, ey, ez] at ρ
        refine g_iconst (pc := 24) o dX9_strict_24 1 rfl ?_
        refine g_istore (pc := 25) o dX9_strict_25 (by decide) ?_
        show ca_G Γ 5 _ _ [_, _, _, _, _] _
        exact lp_strict o C x y z (by omega) (by omega) (by omega) _ ρ 1 (by decide) (by decide) _ rfl rfl
      · skip
        refine g_aload_n (pc := 18) o dX9_strict_18 rfl ?_
        refine g_iconst (pc := 19) o dX9_strict_19 0 rfl ?_
        refine g_callVi (pc := 20) o (c_finding 0 (by decide) h) mt_X9_finding mv_X9_finding lk_X9_58 rfl rfl rfl (by decide) rfl (Nat.le_of_ble_eq_true rfl) dX9_strict_20 ?_
        exact g_iret o ρ dX9_strict_23 (Po.eq (if_neg (fun z => (by have := mt (leN a 100 (by decide)).mpr c15; have := z.2.2.2; omega))) (Po_fnd C (by decide)))
set_option maxRecDepth 100000 in
set_option maxHeartbeats 400000 in
theorem lp_mstrict {Γ : Fr} (o : ca_O Γ cX10_strict 5 RX10 1 25) {h0 : Mem} (r n a : Nat) (hr : r < 11) (hn : n < 10) (ha : a ≤ 100) (z : Option Nat) (ρ : ca_R Γ (some .int) (Pm h0 (stV z (absM h0)))) : ∀ i, i ≤ 10 → 1 ≤ i → ∀ (xi : Int32) (h : Mem), xi = nI i → (∀ c, c ≠ 65 → h.1 c = h0.1 c) → strF r n a (10 - i) i = z → ca_G Γ 5 h 46 [some (.ref 51), some (.int (nI r)), some (.int (nI n)), some (.int (nI a)), some (.int xi)] [] := by
  refine downI 10 (fun i hi ih => ?_)
  rintro i1 xi h rfl eh e
  have l2 := ten_le n hn
  refine g_iload (pc := 46) o dX10_strict_46 rfl ?_
  refine g_bipush (pc := 48) o dX10_strict_48 9 rfl ?_
  refine g_ic_gt (pc := 50) o 87 dX10_strict_50 (by decide) (fun c50 => ?_) (fun c50 => ?_)
  · skip
    have e1 : i = 10 := by have := (nI_ltI (a := 9) (b := i) (by decide) (by omega)).mp c50; omega
    subst e1
    have e : none = z := e
    subst e
    refine g_aload_n (pc := 87) o dX10_strict_87 rfl ?_
    refine g_ldc (pc := 88) o dX10_strict_88 lc_X10_97 ?_
    refine g_callVi (pc := 90) o (m_finds 3 (by decide) h) mt_X10_finds mv_X10_finds lk_X10_86 rfl rfl rfl (by decide) rfl (Nat.le_of_ble_eq_true rfl) dX10_strict_90 ?_
    exact g_iret o ρ dX10_strict_93 (Pm_fnd (abs_65 eh) (kC_65 eh) (by decide))
  · skip
    have e1 : i ≤ 9 := by have := mt (nI_ltI (a := 9) (b := i) (by decide) (by omega)).mpr c50; omega
    have l1 := rkN_le r hr n hn i (by omega)
    rw [show 10 - i = (10 - (i + 1)) + 1 by omega, strF_s] at e
    have la : a * 10 ^ n ≤ 100 * 1000000000 := Nat.mul_le_mul ha l2
    refine g_ldc2 (pc := 53) o dX10_strict_53 lc_X10_217 ?_
    refine g_aload_n (pc := 56) o dX10_strict_56 rfl ?_
    refine g_iload_n (pc := 57) o dX10_strict_57 rfl ?_
    refine g_iload_n (pc := 58) o dX10_strict_58 rfl ?_
    refine g_iload (pc := 59) o dX10_strict_59 rfl ?_
    refine g_callVQi (pc := 61) o (m_risks r n i hr hn (by omega) h) mt_X10_risks mv_X10_risks lk_X10_211 rfl rfl rfl (by decide) rfl (Nat.le_of_ble_eq_true rfl) dX10_strict_61 ?_
    rintro x h2 q1
    obtain ⟨rfl, q2⟩ := q1
    have q3 : ∀ c, c ≠ 65 → h2.1 c = h0.1 c := fun c hc => (q2 c hc).trans (eh c hc)
    refine g_i2l (pc := 64) o dX10_strict_64 ?_
    refine g_lmul (pc := 65) o dX10_strict_65 ?_
    refine g_iload_n (pc := 66) o dX10_strict_66 rfl ?_
    refine g_i2l (pc := 67) o dX10_strict_67 ?_
    refine g_iload_n (pc := 68) o dX10_strict_68 rfl ?_
    refine g_callSi (pc := 69) o (m_tens n (by omega) h2) mt_X10_tens ms_X10_tens lk_X10_214 rfl (by decide) rfl (Nat.le_of_ble_eq_true rfl) dX10_strict_69 ?_
    refine g_i2l (pc := 72) o dX10_strict_72 ?_
    refine g_lmul (pc := 73) o dX10_strict_73 ?_
    rw [nI_l (by omega), nI_l (by omega), nI_l (by omega), lN_mul, show (100 : Int64) = lN 100 from rfl, lN_mul]
    refine g_lcmp (pc := 74) o dX10_strict_74 ?_
    refine g_if_gt (pc := 75) o 81 dX10_strict_75 (by decide) (fun c75 => ?_) (fun c75 => ?_)
    · skip
      have q : ¬ 100 * rkN r n i ≤ a * 10 ^ n := by
        have := (pk_lLT (a := a * 10 ^ n) (b := 100 * rkN r n i) (by omega) (by omega)).mp ((lg_cmp_gt _ _).mp c75)
        omega
      rw [if_neg q] at e
      refine g_iinc (pc := 81) o dX10_strict_81 rfl 1 rfl (by decide) ?_
      show ca_G Γ 5 _ _ [_, _, _, _, _] _
      refine g_goto (pc := 84) o 46 dX10_strict_84 (by decide) ?_
      exact ih (by omega) (by omega) _ h2 (nI_1 i) q3 e
    · skip
      have q : 100 * rkN r n i ≤ a * 10 ^ n := by
        have := mt (pk_lLT (a := a * 10 ^ n) (b := 100 * rkN r n i) (by omega) (by omega)).mpr (fun w => c75 ((lg_cmp_gt _ _).mpr w))
        omega
      rw [if_pos q] at e
      subst e
      refine g_iload (pc := 78) o dX10_strict_78 rfl ?_
      exact g_iret o ρ dX10_strict_80 (Pm.mk rfl (abs_65 q3) (kC_65 q3))
set_option maxRecDepth 100000 in
set_option maxHeartbeats 400000 in
theorem mo_strict {h : Mem} (r n a : Int32) : Ct yX10_strict cX10_strict 5 (some .int) 1 25 [.ref 51, .int r, .int n, .int a] h (Pm h (op_strict r n a (absM h))) := by
  refine Ct.of (by decide) (Nat.le_of_ble_eq_true rfl) (fun Γ o ρ => ?_)
  show ca_G Γ 5 _ _ [_, _, _, _, _] _
  have d1 := in_rng r 0 10 (by decide)
  have d2 := in_rng n 1 9 (by decide)
  have d3 := in_rng a 0 100 (by decide)
  refine g_iload_n (pc := 0) o dX10_strict_0 rfl ?_
  refine g_i2l (pc := 1) o dX10_strict_1 ?_
  refine g_lconst (pc := 2) o dX10_strict_2 0 rfl ?_
  refine g_ldc2 (pc := 3) o dX10_strict_3 lc_X10_207 ?_
  refine g_callSi (pc := 6) o (m_in r.toInt64 0 10 h) mt_X10_in ms_X10_in lk_X10_71 rfl (by decide) rfl (Nat.le_of_ble_eq_true rfl) dX10_strict_6 ?_
  refine g_if_eq (pc := 9) o 36 dX10_strict_9 (by decide) (fun c9 => ?_) (fun c9 => ?_)
  · skip
    refine g_aload_n (pc := 36) o dX10_strict_36 rfl ?_
    refine g_ldc (pc := 37) o dX10_strict_37 lc_X10_68 ?_
    refine g_callVi (pc := 39) o (m_finds 0 (by decide) h) mt_X10_finds mv_X10_finds lk_X10_86 rfl rfl rfl (by decide) rfl (Nat.le_of_ble_eq_true rfl) dX10_strict_39 ?_
    exact g_iret o ρ dX10_strict_42 (Pm.eq (if_neg (fun z => (by rw [d1] at c9; exact bI_0.mp c9 z.1))) (Pm_fnd rfl (kC.rf h) (by decide)))
  · skip
    refine g_iload_n (pc := 12) o dX10_strict_12 rfl ?_
    refine g_i2l (pc := 13) o dX10_strict_13 ?_
    refine g_lconst (pc := 14) o dX10_strict_14 1 rfl ?_
    refine g_ldc2 (pc := 15) o dX10_strict_15 lc_X10_209 ?_
    refine g_callSi (pc := 18) o (m_in n.toInt64 1 9 h) mt_X10_in ms_X10_in lk_X10_71 rfl (by decide) rfl (Nat.le_of_ble_eq_true rfl) dX10_strict_18 ?_
    refine g_if_eq (pc := 21) o 36 dX10_strict_21 (by decide) (fun c21 => ?_) (fun c21 => ?_)
    · skip
      refine g_aload_n (pc := 36) o dX10_strict_36 rfl ?_
      refine g_ldc (pc := 37) o dX10_strict_37 lc_X10_68 ?_
      refine g_callVi (pc := 39) o (m_finds 0 (by decide) h) mt_X10_finds mv_X10_finds lk_X10_86 rfl rfl rfl (by decide) rfl (Nat.le_of_ble_eq_true rfl) dX10_strict_39 ?_
      exact g_iret o ρ dX10_strict_42 (Pm.eq (if_neg (fun z => (by rw [d2] at c21; exact bI_0.mp c21 z.2.1))) (Pm_fnd rfl (kC.rf h) (by decide)))
    · skip
      refine g_iload_n (pc := 24) o dX10_strict_24 rfl ?_
      refine g_i2l (pc := 25) o dX10_strict_25 ?_
      refine g_lconst (pc := 26) o dX10_strict_26 0 rfl ?_
      refine g_ldc2 (pc := 27) o dX10_strict_27 lc_X10_217 ?_
      refine g_callSi (pc := 30) o (m_in a.toInt64 0 100 h) mt_X10_in ms_X10_in lk_X10_71 rfl (by decide) rfl (Nat.le_of_ble_eq_true rfl) dX10_strict_30 ?_
      refine g_if_ne (pc := 33) o 43 dX10_strict_33 (by decide) (fun c33 => ?_) (fun c33 => ?_)
      · skip
        rw [d1] at c9
        rw [d2] at c21
        rw [d3] at c33
        have k1 := bI_n0.mp c9
        have k2 := bI_n0.mp c21
        have k3 := bI_n0.mp c33
        have eq : op_strict r n a (absM h) = stV (strF (ca_n r) (ca_n n) (ca_n a) 9 1) (absM h) := if_pos ⟨k1, k2, k3⟩
        rw [eq] at ρ
        obtain ⟨x, hx, rfl, ex⟩ := n_of (x := r) (b := 10) k1 (by decide)
        obtain ⟨y, hy, rfl, ey⟩ := n_of (x := n) (b := 9) ⟨by have := k2.1; have e : (1 : Int64).toInt = 1 := rfl; omega, k2.2⟩ (by decide)
        obtain ⟨z, hz, rfl, ez⟩ := n_of (x := a) (b := 100) k3 (by decide)
        rw [ex, ey, ez] at ρ
        refine g_iconst (pc := 43) o dX10_strict_43 1 rfl ?_
        refine g_istore (pc := 44) o dX10_strict_44 (by decide) ?_
        show ca_G Γ 5 _ _ [_, _, _, _, _] _
        exact lp_mstrict o x y z (by omega) (by omega) (by omega) _ ρ 1 (by decide) (by decide) _ h rfl (fun c hc => rfl) rfl

      · skip
        refine g_aload_n (pc := 36) o dX10_strict_36 rfl ?_
        refine g_ldc (pc := 37) o dX10_strict_37 lc_X10_68 ?_
        refine g_callVi (pc := 39) o (m_finds 0 (by decide) h) mt_X10_finds mv_X10_finds lk_X10_86 rfl rfl rfl (by decide) rfl (Nat.le_of_ble_eq_true rfl) dX10_strict_39 ?_
        exact g_iret o ρ dX10_strict_42 (Pm.eq (if_neg (fun z => (by rw [d3] at c33; exact bI_0.mp c33 z.2.2))) (Pm_fnd rfl (kC.rf h) (by decide)))
