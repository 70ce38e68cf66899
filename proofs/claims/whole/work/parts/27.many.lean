/-! ===== many ===== -/
def bcF (x : Int32) : Int32 :=
  let a := x - (jushr x 1 &&& 1431655765)
  let b := (a &&& 858993459) + (jushr a 2 &&& 858993459)
  let c := (b + jushr b 4) &&& 252645135
  let d := c + jushr c 8
  let e := d + jushr d 16
  e &&& 63
def M1 (x : Int32) (q : Nat) : Nat := if bt x q = true then 1 else 0
def pop8 (x : Int32) : Nat := M1 x 0 + M1 x 1 + M1 x 2 + M1 x 3 + M1 x 4 + M1 x 5 + M1 x 6 + M1 x 7
theorem bcF_8 : ∀ v, v < 256 → bcF (nI v) = nI (pop8 (nI v)) := by decide +kernel
set_option maxRecDepth 100000 in
set_option maxHeartbeats 400000 in
theorem c_bitCount (x : Int32) (h : Mem) : Ct yJ6_bitCount_0f7a4 cJ6_bitCount_0f7a4 1 (some .int) 0 0 [.int x] h (Ei (bcF x) h) := by
  refine Ct.of (by decide) (Nat.le_of_ble_eq_true rfl) (fun Γ o ρ => ?_)
  show ca_G Γ 1 _ _ [_] _
  refine g_iload_n (pc := 0) o dJ6_bitCount_0f7a4_0 rfl ?_
  refine g_iload_n (pc := 1) o dJ6_bitCount_0f7a4_1 rfl ?_
  refine g_iconst (pc := 2) o dJ6_bitCount_0f7a4_2 1 rfl ?_
  refine g_iushr (pc := 3) o dJ6_bitCount_0f7a4_3 ?_
  refine g_ldcw (pc := 4) o dJ6_bitCount_0f7a4_4 lc_J6_265 ?_
  refine g_iand (pc := 7) o dJ6_bitCount_0f7a4_7 ?_
  refine g_isub (pc := 8) o dJ6_bitCount_0f7a4_8 ?_
  refine g_istore_n (pc := 9) o dJ6_bitCount_0f7a4_9 (by decide) ?_
  show ca_G Γ 1 _ _ [_] _
  refine g_iload_n (pc := 10) o dJ6_bitCount_0f7a4_10 rfl ?_
  refine g_ldcw (pc := 11) o dJ6_bitCount_0f7a4_11 lc_J6_266 ?_
  refine g_iand (pc := 14) o dJ6_bitCount_0f7a4_14 ?_
  refine g_iload_n (pc := 15) o dJ6_bitCount_0f7a4_15 rfl ?_
  refine g_iconst (pc := 16) o dJ6_bitCount_0f7a4_16 2 rfl ?_
  refine g_iushr (pc := 17) o dJ6_bitCount_0f7a4_17 ?_
  refine g_ldcw (pc := 18) o dJ6_bitCount_0f7a4_18 lc_J6_266 ?_
  refine g_iand (pc := 21) o dJ6_bitCount_0f7a4_21 ?_
  refine g_iadd (pc := 22) o dJ6_bitCount_0f7a4_22 ?_
  refine g_istore_n (pc := 23) o dJ6_bitCount_0f7a4_23 (by decide) ?_
  show ca_G Γ 1 _ _ [_] _
  refine g_iload_n (pc := 24) o dJ6_bitCount_0f7a4_24 rfl ?_
  refine g_iload_n (pc := 25) o dJ6_bitCount_0f7a4_25 rfl ?_
  refine g_iconst (pc := 26) o dJ6_bitCount_0f7a4_26 4 rfl ?_
  refine g_iushr (pc := 27) o dJ6_bitCount_0f7a4_27 ?_
  refine g_iadd (pc := 28) o dJ6_bitCount_0f7a4_28 ?_
  refine g_ldcw (pc := 29) o dJ6_bitCount_0f7a4_29 lc_J6_267 ?_
  refine g_iand (pc := 32) o dJ6_bitCount_0f7a4_32 ?_
  refine g_istore_n (pc := 33) o dJ6_bitCount_0f7a4_33 (by decide) ?_
  show ca_G Γ 1 _ _ [_] _
  refine g_iload_n (pc := 34) o dJ6_bitCount_0f7a4_34 rfl ?_
  refine g_iload_n (pc := 35) o dJ6_bitCount_0f7a4_35 rfl ?_
  refine g_bipush (pc := 36) o dJ6_bitCount_0f7a4_36 8 rfl ?_
  refine g_iushr (pc := 38) o dJ6_bitCount_0f7a4_38 ?_
  refine g_iadd (pc := 39) o dJ6_bitCount_0f7a4_39 ?_
  refine g_istore_n (pc := 40) o dJ6_bitCount_0f7a4_40 (by decide) ?_
  show ca_G Γ 1 _ _ [_] _
  refine g_iload_n (pc := 41) o dJ6_bitCount_0f7a4_41 rfl ?_
  refine g_iload_n (pc := 42) o dJ6_bitCount_0f7a4_42 rfl ?_
  refine g_bipush (pc := 43) o dJ6_bitCount_0f7a4_43 16 rfl ?_
  refine g_iushr (pc := 45) o dJ6_bitCount_0f7a4_45 ?_
  refine g_iadd (pc := 46) o dJ6_bitCount_0f7a4_46 ?_
  refine g_istore_n (pc := 47) o dJ6_bitCount_0f7a4_47 (by decide) ?_
  show ca_G Γ 1 _ _ [_] _
  refine g_iload_n (pc := 48) o dJ6_bitCount_0f7a4_48 rfl ?_
  refine g_bipush (pc := 49) o dJ6_bitCount_0f7a4_49 63 rfl ?_
  refine g_iand (pc := 51) o dJ6_bitCount_0f7a4_51 ?_
  exact g_iret o ρ dJ6_bitCount_0f7a4_52 (Ei.mk rfl rfl)
theorem lt256 {x : Int32} (hx : ∀ j, j < 32 → bt x j = true → j < 8) : ∃ v, v < 256 ∧ x = nI v := by
  obtain ⟨v, hv, e⟩ := pk_andE x (m := 255) 8 (by decide)
  refine ⟨v, hv, ?_⟩
  rw [← e]
  apply b_ext
  intro i hi
  rw [b_and, b_255]
  by_cases q : i < 8
  · simp [q]
  · have : bt x i = false := by
      cases hb : bt x i with
      | false => rfl
      | true => exact absurd (hx i hi hb) q
    simp [this]
theorem SI.rd {s : Nat → Int32} (I : SI s) (i : Nat) (hi : i < 8) : ∃ v, v < 256 ∧ s i = nI v := lt256 (fun j hj hb => (I.1 i j hi hj hb).1)
def rcF (s : Nat → Int32) : Nat → Nat
  | 0 => 0
  | n + 1 => rcF s n + pop8 (s n)
theorem pop8_le (x : Int32) : pop8 x ≤ 8 := by
  have : ∀ q, M1 x q ≤ 1 := fun q => by unfold M1; split <;> omega
  have a0 := this 0; have a1 := this 1; have a2 := this 2; have a3 := this 3; have a4 := this 4; have a5 := this 5; have a6 := this 6; have a7 := this 7
  unfold pop8
  omega
theorem rcF_le (s : Nat → Int32) : ∀ n, rcF s n ≤ 8 * n
  | 0 => Nat.le_refl 0
  | n + 1 => by
    have := rcF_le s n
    have := pop8_le (s n)
    show rcF s n + pop8 (s n) ≤ _
    omega
set_option maxRecDepth 100000 in
theorem lp_roadCount {Γ : Fr} (o : ca_O Γ cX2_roadCount 3 RX2 1 20) {Pr : Option Value → Mem → Prop} (ρ : ca_R Γ (some .int) Pr) {h : Mem} {s : Nat → Int32} (B : BR h 1 s) (R : ∀ i, i < 8 → ∃ v, v < 256 ∧ s i = nI v) (hp : Pr (some (.int (nI (rcF s 8 / 2)))) h) : ∀ i, i ≤ 8 → ∀ xi a : Int32, xi = nI i → a = nI (rcF s i) → ca_G Γ 3 h 4 [some (.ref 2), some (.int a), some (.int xi)] [] := by
  refine downI 8 (fun i hi ih => ?_)
  rintro xi a rfl rfl
  have hl := rcF_le s i
  refine g_iload_n (pc := 4) o dX2_roadCount_4 rfl ?_
  refine g_bipush (pc := 5) o dX2_roadCount_5 8 rfl ?_
  refine g_ic_ge (pc := 7) o 28 dX2_roadCount_7 (by decide) (fun c7 => ?_) (fun c7 => ?_)
  · skip
    have e : i = 8 := ge8 (n := 8) (by omega) (by omega) c7
    subst e
    refine g_iload_n (pc := 28) o dX2_roadCount_28 rfl ?_
    refine g_iconst (pc := 29) o dX2_roadCount_29 2 rfl ?_
    refine g_idiv (pc := 30) o dX2_roadCount_30 (by decide) ?_
    exact g_iret o ρ dX2_roadCount_31 (by rw [show nI (rcF s 8) / 2 = nI (rcF s 8 / 2) from dv_nI (by omega) (by decide) (by decide)]; exact hp)
  · skip
    have e : i < 8 := lt8 (n := 8) (by omega) (by omega) c7
    obtain ⟨v, hv, ev⟩ := R i e
    have bc : Ct yJ6_bitCount_0f7a4 cJ6_bitCount_0f7a4 1 (some .int) 0 0 [.int (s i)] h (Ei (nI (pop8 (s i))) h) := by rw [ev, ← bcF_8 v hv]; exact c_bitCount _ h
    refine g_iload_n (pc := 10) o dX2_roadCount_10 rfl ?_
    refine g_aload_n (pc := 11) o dX2_roadCount_11 rfl ?_
    refine g_getR (pc := 12) o 0 rfl rfl rfl inX2 (by decide) lf_X2_9 dX2_roadCount_12 ?_
    refine g_iload_n (pc := 15) o dX2_roadCount_15 rfl ?_
    refine n_ialdE (pc := 16) o i (rfl) rfl ((by omega)) (by decide) (B.1 i e) dX2_roadCount_16 ?_
    refine g_callSi (pc := 17) o (bc) mt_J6_bitCount_0f7a4 ms_J6_bitCount_0f7a4 lk_X2_23 rfl (by decide) rfl (Nat.le_of_ble_eq_true rfl) dX2_roadCount_17 ?_
    refine g_iadd (pc := 20) o dX2_roadCount_20 ?_
    refine g_istore_n (pc := 21) o dX2_roadCount_21 (by decide) ?_
    show ca_G Γ 3 _ _ [_, _, _] _
    refine g_iinc (pc := 22) o dX2_roadCount_22 rfl 1 rfl (by decide) ?_
    show ca_G Γ 3 _ _ [_, _, _] _
    refine g_goto (pc := 25) o 4 dX2_roadCount_25 (by decide) ?_
    exact ih e _ _ (nI_1 i) (nI_add _ _)
set_option maxRecDepth 100000 in
set_option maxHeartbeats 400000 in
theorem c_roadCount {h : Mem} {s : Nat → Int32} (B : BR h 1 s) (R : ∀ i, i < 8 → ∃ v, v < 256 ∧ s i = nI v) : Ct yX2_roadCount cX2_roadCount 3 (some .int) 1 20 [.ref 2] h (Ei (nI (rcF s 8 / 2)) h) := by
  refine Ct.of (by decide) (Nat.le_of_ble_eq_true rfl) (fun Γ o ρ => ?_)
  show ca_G Γ 3 _ _ [_, _, _] _
  refine g_iconst (pc := 0) o dX2_roadCount_0 0 rfl ?_
  refine g_istore_n (pc := 1) o dX2_roadCount_1 (by decide) ?_
  show ca_G Γ 3 _ _ [_, _, _] _
  refine g_iconst (pc := 2) o dX2_roadCount_2 0 rfl ?_
  refine g_istore_n (pc := 3) o dX2_roadCount_3 (by decide) ?_
  show ca_G Γ 3 _ _ [_, _, _] _
  exact lp_roadCount o ρ B R ⟨rfl, rfl⟩ 0 (by omega) 0 0 rfl rfl
def rmF (s : Nat → Int32) : Nat → Int32
  | 0 => 0
  | n + 1 => rmF s n + s (285 + n)
set_option maxRecDepth 100000 in
theorem lp_roomOfAll {Γ : Fr} (o : ca_O Γ cX6_roomOfAll 3 RX6 0 0) {Pr : Option Value → Mem → Prop} (ρ : ca_R Γ (some .int) Pr) {h : Mem} {s : Nat → Int32} (B : BR h 1 s) (hp : Pr (some (.int (rmF s 5))) h) : ∀ i, i ≤ 5 → ∀ xi a : Int32, xi = nI i → a = rmF s i → ca_G Γ 3 h 4 [some (.ref 8), some (.int a), some (.int xi)] [] := by
  refine downI 5 (fun i hi ih => ?_)
  rintro xi a rfl rfl
  refine g_iload_n (pc := 4) o dX6_roomOfAll_4 rfl ?_
  refine g_iconst (pc := 5) o dX6_roomOfAll_5 5 rfl ?_
  refine g_ic_ge (pc := 6) o 24 dX6_roomOfAll_6 (by decide) (fun c6 => ?_) (fun c6 => ?_)
  · skip
    have e : i = 5 := ge8 (n := 5) (by omega) (by omega) c6
    subst e
    refine g_iload_n (pc := 24) o dX6_roomOfAll_24 rfl ?_
    exact g_iret o ρ dX6_roomOfAll_25 hp
  · skip
    have e : i < 5 := lt8 (n := 5) (by omega) (by omega) c6
    refine g_iload_n (pc := 9) o dX6_roomOfAll_9 rfl ?_
    refine g_aload_n (pc := 10) o dX6_roomOfAll_10 rfl ?_
    refine g_getR (pc := 11) o 0 rfl rfl rfl inX6 (by decide) lf_X6_9 dX6_roomOfAll_11 ?_
    refine g_iload_n (pc := 14) o dX6_roomOfAll_14 rfl ?_
    refine n_ialdE (pc := 15) o i (rfl) rfl ((by omega)) (by decide) (B.rm i e) dX6_roomOfAll_15 ?_
    refine g_iadd (pc := 16) o dX6_roomOfAll_16 ?_
    refine g_istore_n (pc := 17) o dX6_roomOfAll_17 (by decide) ?_
    show ca_G Γ 3 _ _ [_, _, _] _
    refine g_iinc (pc := 18) o dX6_roomOfAll_18 rfl 1 rfl (by decide) ?_
    show ca_G Γ 3 _ _ [_, _, _] _
    refine g_goto (pc := 21) o 4 dX6_roomOfAll_21 (by decide) ?_
    exact ih e _ _ (nI_1 i) rfl
set_option maxRecDepth 100000 in
set_option maxHeartbeats 400000 in
theorem c_roomOfAll {h : Mem} {s : Nat → Int32} (B : BR h 1 s) : Ct yX6_roomOfAll cX6_roomOfAll 3 (some .int) 0 0 [.ref 8] h (Ei (rmF s 5) h) := by
  refine Ct.of (by decide) (Nat.le_of_ble_eq_true rfl) (fun Γ o ρ => ?_)
  show ca_G Γ 3 _ _ [_, _, _] _
  refine g_iconst (pc := 0) o dX6_roomOfAll_0 0 rfl ?_
  refine g_istore_n (pc := 1) o dX6_roomOfAll_1 (by decide) ?_
  show ca_G Γ 3 _ _ [_, _, _] _
  refine g_iconst (pc := 2) o dX6_roomOfAll_2 0 rfl ?_
  refine g_istore_n (pc := 3) o dX6_roomOfAll_3 (by decide) ?_
  show ca_G Γ 3 _ _ [_, _, _] _
  exact lp_roomOfAll o ρ B ⟨rfl, rfl⟩ 0 (by omega) 0 0 rfl rfl
def hcN (s : Nat → Int32) : Nat → Nat
  | 0 => 0
  | n + 1 => hcN s n + (if s (331 + n) = -1 then 0 else 1)
theorem hcN_s (s : Nat → Int32) (n : Nat) : hcN s (n + 1) = hcN s n + (if s (331 + n) = -1 then 0 else 1) := rfl
set_option maxRecDepth 100000 in
theorem lp_hearingCount {Γ : Fr} (o : ca_O Γ cX0_hearingCount 3 RX0 0 0) {Pr : Option Value → Mem → Prop} (ρ : ca_R Γ (some .int) Pr) {h : Mem} {s : Nat → Int32} (B : BR h 1 s) (hp : Pr (some (.int (nI (hcN s 6)))) h) : ∀ i, i ≤ 6 → ∀ xi a : Int32, xi = nI i → a = nI (hcN s i) → ca_G Γ 3 h 4 [some (.ref 1), some (.int a), some (.int xi)] [] := by
  refine downI 6 (fun i hi ih => ?_)
  rintro xi a rfl rfl
  refine g_iload_n (pc := 4) o dX0_hearingCount_4 rfl ?_
  refine g_bipush (pc := 5) o dX0_hearingCount_5 6 rfl ?_
  refine g_ic_ge (pc := 7) o 29 dX0_hearingCount_7 (by decide) (fun c7 => ?_) (fun c7 => ?_)
  · skip
    have e : i = 6 := ge8 (n := 6) (by omega) (by omega) c7
    subst e
    refine g_iload_n (pc := 29) o dX0_hearingCount_29 rfl ?_
    exact g_iret o ρ dX0_hearingCount_30 hp
  · skip
    have e : i < 6 := lt8 (n := 6) (by omega) (by omega) c7
    refine g_aload_n (pc := 10) o dX0_hearingCount_10 rfl ?_
    refine g_getR (pc := 11) o 4 rfl rfl rfl inX0 (by decide) lf_X0_39 dX0_hearingCount_11 ?_
    refine g_iload_n (pc := 14) o dX0_hearingCount_14 rfl ?_
    refine n_ialdE (pc := 15) o i (rfl) rfl ((by omega)) (by decide) (B.hr i e) dX0_hearingCount_15 ?_
    refine g_iconst (pc := 16) o dX0_hearingCount_16 (-1) rfl ?_
    refine g_ic_eq (pc := 17) o 23 dX0_hearingCount_17 (by decide) (fun c17 => ?_) (fun c17 => ?_)
    · skip
      refine g_iinc (pc := 23) o dX0_hearingCount_23 rfl 1 rfl (by decide) ?_
      show ca_G Γ 3 _ _ [_, _, _] _
      refine g_goto (pc := 26) o 4 dX0_hearingCount_26 (by decide) ?_
      exact ih e _ _ (nI_1 i) (by rw [hcN_s, if_pos c17]; rfl)
    · skip
      refine g_iinc (pc := 20) o dX0_hearingCount_20 rfl 1 rfl (by decide) ?_
      show ca_G Γ 3 _ _ [_, _, _] _
      refine g_iinc (pc := 23) o dX0_hearingCount_23 rfl 1 rfl (by decide) ?_
      show ca_G Γ 3 _ _ [_, _, _] _
      refine g_goto (pc := 26) o 4 dX0_hearingCount_26 (by decide) ?_
      exact ih e _ _ (nI_1 i) (by rw [hcN_s, if_neg c17]; exact nI_1 _)
set_option maxRecDepth 100000 in
set_option maxHeartbeats 400000 in
theorem c_hearingCount {h : Mem} {s : Nat → Int32} (B : BR h 1 s) : Ct yX0_hearingCount cX0_hearingCount 3 (some .int) 0 0 [.ref 1] h (Ei (nI (hcN s 6)) h) := by
  refine Ct.of (by decide) (Nat.le_of_ble_eq_true rfl) (fun Γ o ρ => ?_)
  show ca_G Γ 3 _ _ [_, _, _] _
  refine g_iconst (pc := 0) o dX0_hearingCount_0 0 rfl ?_
  refine g_istore_n (pc := 1) o dX0_hearingCount_1 (by decide) ?_
  show ca_G Γ 3 _ _ [_, _, _] _
  refine g_iconst (pc := 2) o dX0_hearingCount_2 0 rfl ?_
  refine g_istore_n (pc := 3) o dX0_hearingCount_3 (by decide) ?_
  show ca_G Γ 3 _ _ [_, _, _] _
  exact lp_hearingCount o ρ B ⟨rfl, rfl⟩ 0 (by omega) 0 0 rfl rfl
def manyV (σ : Sg) (k : Nat) : Int32 := match k with
  | 0 => σ 0 8
  | 1 => σ 0 189
  | 2 => nI (rcF (σ 0) 8 / 2)
  | 3 => nI (hcN (σ 0) 6)
  | 4 => σ 8 2
  | 5 => σ 0 284
  | _ => rmF (σ 0) 5
def op_many (a : Int32) (σ : Sg) : Int32 × Sg := if rng a 0 6 then (manyV σ (ca_n a), σ) else fnd σ 0
set_option maxRecDepth 100000 in
set_option maxHeartbeats 400000 in
theorem co_many {h : Mem} {σ : Sg} (C : CR h σ) (I : Iv σ) (a : Int32) : Ct yX9_many cX9_many 2 (some .int) 2 42 [.ref 0, .int a] h (Po h (op_many a σ)) := by
  refine Ct.of (by decide) (Nat.le_of_ble_eq_true rfl) (fun Γ o ρ => ?_)
  show ca_G Γ 2 _ _ [_, _] _
  by_cases q : rng a 0 6
  · have eq : op_many a σ = (manyV σ (ca_n a), σ) := if_pos q
    rw [eq] at ρ
    obtain ⟨k, hk, rfl, ek⟩ := n_of (x := a) (b := 6) q (by decide)
    rw [ek] at ρ
    refine g_iload_n (pc := 0) o dX9_many_0 rfl ?_
    rcases (by omega : k = 0 ∨ k = 1 ∨ k = 2 ∨ k = 3 ∨ k = 4 ∨ k = 5 ∨ k = 6) with rfl | rfl | rfl | rfl | rfl | rfl | rfl
    · skip
      refine g_tabIn (pc := 1) o 44 dX9_many_1 (by decide) (by decide) rfl (by decide) ?_
      refine g_aload_n (pc := 44) o dX9_many_44 rfl ?_
      refine g_getR (pc := 45) o 0 rfl rfl rfl inX9 (by decide) lf_X9_10 dX9_many_45 ?_
      refine g_getR (pc := 48) o 1 rfl rfl rfl inX0 (by decide) lf_X9_89 dX9_many_48 ?_
      refine g_callVi (pc := 51) o (c_ssize C.1) mt_X5_size mv_X5_size lk_X9_109 rfl rfl rfl (by decide) rfl (Nat.le_of_ble_eq_true rfl) dX9_many_51 ?_
      exact g_iret o ρ dX9_many_54 (Po.mk rfl C (kM.rf h))
    · skip
      refine g_tabIn (pc := 1) o 55 dX9_many_1 (by decide) (by decide) rfl (by decide) ?_
      refine g_aload_n (pc := 55) o dX9_many_55 rfl ?_
      refine g_getR (pc := 56) o 0 rfl rfl rfl inX9 (by decide) lf_X9_10 dX9_many_56 ?_
      refine g_getR (pc := 59) o 2 rfl rfl rfl inX0 (by decide) lf_X9_137 dX9_many_59 ?_
      refine g_callVi (pc := 62) o (c_tsize C.1) mt_X7_size mv_X7_size lk_X9_347 rfl rfl rfl (by decide) rfl (Nat.le_of_ble_eq_true rfl) dX9_many_62 ?_
      exact g_iret o ρ dX9_many_65 (Po.mk rfl C (kM.rf h))
    · skip
      refine g_tabIn (pc := 1) o 66 dX9_many_1 (by decide) (by decide) rfl (by decide) ?_
      refine g_aload_n (pc := 66) o dX9_many_66 rfl ?_
      refine g_getR (pc := 67) o 0 rfl rfl rfl inX9 (by decide) lf_X9_10 dX9_many_67 ?_
      refine g_getR (pc := 70) o 0 rfl rfl rfl inX0 (by decide) lf_X9_62 dX9_many_70 ?_
      refine g_callVi (pc := 73) o (c_roadCount C.1 I.1.rd) mt_X2_roadCount mv_X2_roadCount lk_X9_348 rfl rfl rfl (by decide) rfl (Nat.le_of_ble_eq_true rfl) dX9_many_73 ?_
      exact g_iret o ρ dX9_many_76 (Po.mk rfl C (kM.rf h))
    · skip
      refine g_tabIn (pc := 1) o 77 dX9_many_1 (by decide) (by decide) rfl (by decide) ?_
      refine g_aload_n (pc := 77) o dX9_many_77 rfl ?_
      refine g_getR (pc := 78) o 0 rfl rfl rfl inX9 (by decide) lf_X9_10 dX9_many_78 ?_
      refine g_callVi (pc := 81) o (c_hearingCount C.1) mt_X0_hearingCount mv_X0_hearingCount lk_X9_351 rfl rfl rfl (by decide) rfl (Nat.le_of_ble_eq_true rfl) dX9_many_81 ?_
      exact g_iret o ρ dX9_many_84 (Po.mk rfl C (kM.rf h))
    · skip
      refine g_tabIn (pc := 1) o 85 dX9_many_1 (by decide) (by decide) rfl (by decide) ?_
      refine g_aload_n (pc := 85) o dX9_many_85 rfl ?_
      refine g_getR (pc := 86) o 4 rfl rfl rfl inX9 (by decide) lf_X9_26 dX9_many_86 ?_
      refine g_callVi (pc := 89) o (c_rsize C.2.2.2.2.2.2.1) mt_X3_size mv_X3_size lk_X9_277 rfl rfl rfl (by decide) rfl (Nat.le_of_ble_eq_true rfl) dX9_many_89 ?_
      exact g_iret o ρ dX9_many_92 (Po.mk rfl C (kM.rf h))
    · skip
      refine g_tabIn (pc := 1) o 93 dX9_many_1 (by decide) (by decide) rfl (by decide) ?_
      refine g_aload_n (pc := 93) o dX9_many_93 rfl ?_
      refine g_getR (pc := 94) o 0 rfl rfl rfl inX9 (by decide) lf_X9_10 dX9_many_94 ?_
      refine g_getIE (pc := 97) o 6 rfl rfl rfl inX0 (by decide) lf_X9_266 (C.1.2.2.2.2.2.2.1) dX9_many_97 ?_
      exact g_iret o ρ dX9_many_100 (Po.mk rfl C (kM.rf h))
    · skip
      refine g_tabIn (pc := 1) o 101 dX9_many_1 (by decide) (by decide) rfl (by decide) ?_
      refine g_aload_n (pc := 101) o dX9_many_101 rfl ?_
      refine g_getR (pc := 102) o 0 rfl rfl rfl inX9 (by decide) lf_X9_10 dX9_many_102 ?_
      refine g_getR (pc := 105) o 3 rfl rfl rfl inX0 (by decide) lf_X9_224 dX9_many_105 ?_
      refine g_callVi (pc := 108) o (c_roomOfAll C.1) mt_X6_roomOfAll mv_X6_roomOfAll lk_X9_354 rfl rfl rfl (by decide) rfl (Nat.le_of_ble_eq_true rfl) dX9_many_108 ?_
      exact g_iret o ρ dX9_many_111 (Po.mk rfl C (kM.rf h))
  · skip
    refine g_iload_n (pc := 0) o dX9_many_0 rfl ?_
    refine g_tabOut (pc := 1) o 112 dX9_many_1 ?_ (by decide) ?_
    · rcases Int.lt_or_le a.toInt 0 with z | z
      · exact Or.inl z
      · exact Or.inr (by rcases Int.lt_or_le 6 a.toInt with w | w; exact w; exact absurd ⟨z, w⟩ q)
    refine g_aload_n (pc := 112) o dX9_many_112 rfl ?_
    refine g_iconst (pc := 113) o dX9_many_113 0 rfl ?_
    refine g_callVi (pc := 114) o (c_finding 0 (by decide) h) mt_X9_finding mv_X9_finding lk_X9_58 rfl rfl rfl (by decide) rfl (Nat.le_of_ble_eq_true rfl) dX9_many_114 ?_
    exact g_iret o ρ dX9_many_117 (Po.eq (if_neg q) (Po_fnd C (by decide)))
/-! the model's -/
def rpF (s : Nat → Int32) (p : Nat) : Nat → Nat
  | 0 => 0
  | n + 1 => rpF s p n + M1 (s p) n
def rrF (s : Nat → Int32) : Nat → Nat
  | 0 => 0
  | n + 1 => rrF s n + rpF s n n
theorem M1_b (x : Int32) (q : Nat) : bI (bt x q = true) = nI (M1 x q) := by
  unfold bI M1
  split <;> rfl
set_option maxRecDepth 100000 in
theorem lp_many2 {Γ : Fr} (o : ca_O Γ cX10_many 5 RX10 1 21) {h : Mem} (a : Int32) (p n0 : Nat) (hp : p < 8) (k : ∀ v : Option Value, ca_G Γ 5 h 100 [some (.ref 51), some (.int a), some (.int (nI (n0 + rpF (h.1 52) p p))), some (.int (nI p)), v] []) : ∀ i, i ≤ p → ∀ xi y : Int32, xi = nI i → y = nI (n0 + rpF (h.1 52) p i) → ca_G Γ 5 h 72 [some (.ref 51), some (.int a), some (.int y), some (.int (nI p)), some (.int xi)] [] := by
  refine downI p (fun i hi ih => ?_)
  rintro xi y rfl rfl
  refine g_iload (pc := 72) o dX10_many_72 rfl ?_
  refine g_iload_n (pc := 74) o dX10_many_74 rfl ?_
  refine g_ic_ge (pc := 75) o 100 dX10_many_75 (by decide) (fun c75 => ?_) (fun c75 => ?_)
  · skip
    have e : i = p := ge8 (n := p) (by omega) (by omega) c75
    subst e
    exact k _
  · skip
    have e : i < p := lt8 (n := p) (by omega) (by omega) c75
    refine g_iload_n (pc := 78) o dX10_many_78 rfl ?_
    refine g_aload_n (pc := 79) o dX10_many_79 rfl ?_
    refine g_getR (pc := 80) o 0 rfl rfl rfl inX10 (by decide) lf_X10_7 dX10_many_80 ?_
    refine g_iconst (pc := 83) o dX10_many_83 0 rfl ?_
    refine g_iload_n (pc := 84) o dX10_many_84 rfl ?_
    refine g_iadd (pc := 85) o dX10_many_85 ?_
    refine n_iald (pc := 86) o p (z0 p) rfl ((by omega)) (by decide) dX10_many_86 ?_
    refine g_iload (pc := 87) o dX10_many_87 rfl ?_
    refine g_ishr (pc := 89) o dX10_many_89 ?_
    refine g_iconst (pc := 90) o dX10_many_90 1 rfl ?_
    refine g_iand (pc := 91) o dX10_many_91 ?_
    rw [has_s _ (by omega : i < 32), M1_b]
    refine g_iadd (pc := 92) o dX10_many_92 ?_
    refine g_istore_n (pc := 93) o dX10_many_93 (by decide) ?_
    show ca_G Γ 5 _ _ [_, _, _, _, _] _
    refine g_iinc (pc := 94) o dX10_many_94 rfl 1 rfl (by decide) ?_
    show ca_G Γ 5 _ _ [_, _, _, _, _] _
    refine g_goto (pc := 97) o 72 dX10_many_97 (by decide) ?_
    exact ih e _ _ (nI_1 i) (by rw [nI_add, Nat.add_assoc]; rfl)
set_option maxRecDepth 100000 in
theorem lp_many1 {Γ : Fr} (o : ca_O Γ cX10_many 5 RX10 1 21) {Pr : Option Value → Mem → Prop} (ρ : ca_R Γ (some .int) Pr) {h : Mem} (a : Int32) (hp : Pr (some (.int (nI (rrF (h.1 52) 8)))) h) : ∀ i, i ≤ 8 → ∀ (xi y : Int32) (v : Option Value), xi = nI i → y = nI (rrF (h.1 52) i) → ca_G Γ 5 h 63 [some (.ref 51), some (.int a), some (.int y), some (.int xi), v] [] := by
  refine downI 8 (fun i hi ih => ?_)
  rintro xi y v rfl rfl
  refine g_iload_n (pc := 63) o dX10_many_63 rfl ?_
  refine g_bipush (pc := 64) o dX10_many_64 8 rfl ?_
  refine g_ic_ge (pc := 66) o 106 dX10_many_66 (by decide) (fun c66 => ?_) (fun c66 => ?_)
  · skip
    have e : i = 8 := ge8 (n := 8) (by omega) (by omega) c66
    subst e
    refine g_iload_n (pc := 106) o dX10_many_106 rfl ?_
    exact g_iret o ρ dX10_many_107 hp
  · skip
    have e : i < 8 := lt8 (n := 8) (by omega) (by omega) c66
    refine g_iconst (pc := 69) o dX10_many_69 0 rfl ?_
    refine g_istore (pc := 70) o dX10_many_70 (by decide) ?_
    show ca_G Γ 5 _ _ [_, _, _, _, _] _
    refine lp_many2 o a i (rrF (h.1 52) i) e (fun v => ?_) 0 (by omega) 0 _ rfl rfl
    refine g_iinc (pc := 100) o dX10_many_100 rfl 1 rfl (by decide) ?_
    show ca_G Γ 5 _ _ [_, _, _, _, _] _
    refine g_goto (pc := 103) o 63 dX10_many_103 (by decide) ?_
    exact ih e _ _ _ (nI_1 i) rfl
theorem rr_eq {s : Nat → Int32} (I : SI s) : rrF s 8 = rcF s 8 / 2 := by
  have sy : ∀ p q, p < 8 → q < 8 → M1 (s p) q = M1 (s q) p := by
    intro p q hp hq
    unfold M1
    by_cases e : bt (s p) q = true
    · rw [if_pos e, if_pos (I.1 p q hp (by omega) e).2.2]
    · rw [if_neg e, if_neg (fun z => e (I.1 q p hq (by omega) z).2.2)]
  have dg : ∀ p, p < 8 → M1 (s p) p = 0 := by
    intro p hp
    unfold M1
    rw [if_neg (fun z => (I.1 p p hp (by omega) z).2.1 rfl)]
  simp only [rrF, rpF, rcF, pop8]
  have d0 := dg 0 (by decide); have d1 := dg 1 (by decide); have d2 := dg 2 (by decide); have d3 := dg 3 (by decide); have d4 := dg 4 (by decide); have d5 := dg 5 (by decide); have d6 := dg 6 (by decide); have d7 := dg 7 (by decide)
  rw [d0, d1, d2, d3, d4, d5, d6, d7, sy 0 1 (by decide) (by decide), sy 0 2 (by decide) (by decide), sy 0 3 (by decide) (by decide), sy 0 4 (by decide) (by decide), sy 0 5 (by decide) (by decide), sy 0 6 (by decide) (by decide), sy 0 7 (by decide) (by decide), sy 1 2 (by decide) (by decide), sy 1 3 (by decide) (by decide), sy 1 4 (by decide) (by decide), sy 1 5 (by decide) (by decide), sy 1 6 (by decide) (by decide), sy 1 7 (by decide) (by decide), sy 2 3 (by decide) (by decide), sy 2 4 (by decide) (by decide), sy 2 5 (by decide) (by decide), sy 2 6 (by decide) (by decide), sy 2 7 (by decide) (by decide), sy 3 4 (by decide) (by decide), sy 3 5 (by decide) (by decide), sy 3 6 (by decide) (by decide), sy 3 7 (by decide) (by decide), sy 4 5 (by decide) (by decide), sy 4 6 (by decide) (by decide), sy 4 7 (by decide) (by decide), sy 5 6 (by decide) (by decide), sy 5 7 (by decide) (by decide), sy 6 7 (by decide) (by decide)]
  omega
set_option maxRecDepth 100000 in
theorem lp_many3 {Γ : Fr} (o : ca_O Γ cX10_many 5 RX10 1 21) {Pr : Option Value → Mem → Prop} (ρ : ca_R Γ (some .int) Pr) {h : Mem} (hr : ∀ p, p < 6 → h.1 52 (331 + p) = -1 ∨ ∃ d, d < 30 ∧ h.1 52 (331 + p) = nI d) (a : Int32) (v : Option Value) (hp : Pr (some (.int (nI (hcN (h.1 52) 6)))) h) : ∀ i, i ≤ 6 → ∀ xi y : Int32, xi = nI i → y = nI (hcN (h.1 52) i) → ca_G Γ 5 h 110 [some (.ref 51), some (.int a), some (.int y), some (.int xi), v] [] := by
  refine downI 6 (fun i hi ih => ?_)
  rintro xi y rfl rfl
  refine g_iload_n (pc := 110) o dX10_many_110 rfl ?_
  refine g_bipush (pc := 111) o dX10_many_111 6 rfl ?_
  refine g_ic_ge (pc := 113) o 143 dX10_many_113 (by decide) (fun c113 => ?_) (fun c113 => ?_)
  · skip
    have e : i = 6 := ge8 (n := 6) (by omega) (by omega) c113
    subst e
    refine g_iload_n (pc := 143) o dX10_many_143 rfl ?_
    exact g_iret o ρ dX10_many_144 hp
  · skip
    have e : i < 6 := lt8 (n := 6) (by omega) (by omega) c113
    refine g_iload_n (pc := 116) o dX10_many_116 rfl ?_
    refine g_aload_n (pc := 117) o dX10_many_117 rfl ?_
    refine g_getR (pc := 118) o 0 rfl rfl rfl inX10 (by decide) lf_X10_7 dX10_many_118 ?_
    refine g_sipush (pc := 121) o dX10_many_121 331 rfl ?_
    refine g_iload_n (pc := 124) o dX10_many_124 rfl ?_
    refine g_iadd (pc := 125) o dX10_many_125 ?_
    refine n_iald (pc := 126) o (331 + i) (nI_add 331 i) rfl ((by omega)) (by decide) dX10_many_126 ?_
    refine g_if_lt (pc := 127) o 134 dX10_many_127 (by decide) (fun c127 => ?_) (fun c127 => ?_)
    · skip
      have q : h.1 52 (331 + i) = -1 := by
        rcases hr i e with z | ⟨d, hd, z⟩
        · exact z
        · rw [z] at c127; exact absurd c127 (nI_pos (by omega))
      refine g_iconst (pc := 134) o dX10_many_134 0 rfl ?_
      refine g_iadd (pc := 135) o dX10_many_135 ?_
      refine g_istore_n (pc := 136) o dX10_many_136 (by decide) ?_
      show ca_G Γ 5 _ _ [_, _, _, _, _] _
      refine g_iinc (pc := 137) o dX10_many_137 rfl 1 rfl (by decide) ?_
      show ca_G Γ 5 _ _ [_, _, _, _, _] _
      refine g_goto (pc := 140) o 110 dX10_many_140 (by decide) ?_
      exact ih e _ _ (nI_1 i) (by rw [hcN_s, if_pos q]; exact nI_add _ 0)
    · skip
      have q : ¬ h.1 52 (331 + i) = -1 := fun z => by rw [z] at c127; exact c127 (by decide)
      refine g_iconst (pc := 130) o dX10_many_130 1 rfl ?_
      refine g_goto (pc := 131) o 135 dX10_many_131 (by decide) ?_
      refine g_iadd (pc := 135) o dX10_many_135 ?_
      refine g_istore_n (pc := 136) o dX10_many_136 (by decide) ?_
      show ca_G Γ 5 _ _ [_, _, _, _, _] _
      refine g_iinc (pc := 137) o dX10_many_137 rfl 1 rfl (by decide) ?_
      show ca_G Γ 5 _ _ [_, _, _, _, _] _
      refine g_goto (pc := 140) o 110 dX10_many_140 (by decide) ?_
      exact ih e _ _ (nI_1 i) (by rw [hcN_s, if_neg q]; exact nI_1 _)
set_option maxRecDepth 100000 in
theorem lp_many6 {Γ : Fr} (o : ca_O Γ cX10_many 5 RX10 1 21) {Pr : Option Value → Mem → Prop} (ρ : ca_R Γ (some .int) Pr) {h : Mem} (a : Int32) (v : Option Value) (hp : Pr (some (.int (rmF (h.1 52) 5))) h) : ∀ i, i ≤ 5 → ∀ xi y : Int32, xi = nI i → y = rmF (h.1 52) i → ca_G Γ 5 h 161 [some (.ref 51), some (.int a), some (.int y), some (.int xi), v] [] := by
  refine downI 5 (fun i hi ih => ?_)
  rintro xi y rfl rfl
  refine g_iload_n (pc := 161) o dX10_many_161 rfl ?_
  refine g_iconst (pc := 162) o dX10_many_162 5 rfl ?_
  refine g_ic_ge (pc := 163) o 185 dX10_many_163 (by decide) (fun c163 => ?_) (fun c163 => ?_)
  · skip
    have e : i = 5 := ge8 (n := 5) (by omega) (by omega) c163
    subst e
    refine g_iload_n (pc := 185) o dX10_many_185 rfl ?_
    exact g_iret o ρ dX10_many_186 hp
  · skip
    have e : i < 5 := lt8 (n := 5) (by omega) (by omega) c163
    refine g_iload_n (pc := 166) o dX10_many_166 rfl ?_
    refine g_aload_n (pc := 167) o dX10_many_167 rfl ?_
    refine g_getR (pc := 168) o 0 rfl rfl rfl inX10 (by decide) lf_X10_7 dX10_many_168 ?_
    refine g_sipush (pc := 171) o dX10_many_171 285 rfl ?_
    refine g_iload_n (pc := 174) o dX10_many_174 rfl ?_
    refine g_iadd (pc := 175) o dX10_many_175 ?_
    refine n_iald (pc := 176) o (285 + i) (nI_add 285 i) rfl ((by omega)) (by decide) dX10_many_176 ?_
    refine g_iadd (pc := 177) o dX10_many_177 ?_
    refine g_istore_n (pc := 178) o dX10_many_178 (by decide) ?_
    show ca_G Γ 5 _ _ [_, _, _, _, _] _
    refine g_iinc (pc := 179) o dX10_many_179 rfl 1 rfl (by decide) ?_
    show ca_G Γ 5 _ _ [_, _, _, _, _] _
    refine g_goto (pc := 182) o 161 dX10_many_182 (by decide) ?_
    exact ih e _ _ (nI_1 i) rfl
set_option maxRecDepth 100000 in
set_option maxHeartbeats 400000 in
theorem mo_many {h : Mem} (I : Iv (absM h)) (a : Int32) : Ct yX10_many cX10_many 5 (some .int) 1 21 [.ref 51, .int a] h (Pm h (op_many a (absM h))) := by
  refine Ct.of (by decide) (Nat.le_of_ble_eq_true rfl) (fun Γ o ρ => ?_)
  show ca_G Γ 5 _ _ [_, _, _, _, _] _
  by_cases q : rng a 0 6
  · have eq : op_many a (absM h) = (manyV (absM h) (ca_n a), absM h) := if_pos q
    rw [eq] at ρ
    obtain ⟨k, hk, rfl, ek⟩ := n_of (x := a) (b := 6) q (by decide)
    rw [ek] at ρ
    refine g_iconst (pc := 0) o dX10_many_0 0 rfl ?_
    refine g_istore_n (pc := 1) o dX10_many_1 (by decide) ?_
    show ca_G Γ 5 _ _ [_, _, _, _, _] _
    refine g_iload_n (pc := 2) o dX10_many_2 rfl ?_
    rcases (by omega : k = 0 ∨ k = 1 ∨ k = 2 ∨ k = 3 ∨ k = 4 ∨ k = 5 ∨ k = 6) with rfl | rfl | rfl | rfl | rfl | rfl | rfl
    · skip
      refine g_tabIn (pc := 3) o 44 dX10_many_3 (by decide) (by decide) rfl (by decide) ?_
      refine g_aload_n (pc := 44) o dX10_many_44 rfl ?_
      refine g_getR (pc := 45) o 0 rfl rfl rfl inX10 (by decide) lf_X10_7 dX10_many_45 ?_
      refine g_bipush (pc := 48) o dX10_many_48 8 rfl ?_
      refine n_iald (pc := 50) o 8 (rfl) rfl ((by omega)) (by decide) dX10_many_50 ?_
      exact g_iret o ρ dX10_many_51 (Pm.mk rfl rfl (kC.rf h))
    · skip
      refine g_tabIn (pc := 3) o 52 dX10_many_3 (by decide) (by decide) rfl (by decide) ?_
      refine g_aload_n (pc := 52) o dX10_many_52 rfl ?_
      refine g_getR (pc := 53) o 0 rfl rfl rfl inX10 (by decide) lf_X10_7 dX10_many_53 ?_
      refine g_sipush (pc := 56) o dX10_many_56 189 rfl ?_
      refine n_iald (pc := 59) o 189 (rfl) rfl ((by omega)) (by decide) dX10_many_59 ?_
      exact g_iret o ρ dX10_many_60 (Pm.mk rfl rfl (kC.rf h))
    · skip
      refine g_tabIn (pc := 3) o 61 dX10_many_3 (by decide) (by decide) rfl (by decide) ?_
      refine g_iconst (pc := 61) o dX10_many_61 0 rfl ?_
      refine g_istore_n (pc := 62) o dX10_many_62 (by decide) ?_
      show ca_G Γ 5 _ _ [_, _, _, _, _] _
      exact lp_many1 o ρ _ (Pm.mk (congrArg nI (rr_eq I.1)) rfl (kC.rf h)) 0 (by omega) 0 0 _ rfl rfl
    · skip
      refine g_tabIn (pc := 3) o 108 dX10_many_3 (by decide) (by decide) rfl (by decide) ?_
      refine g_iconst (pc := 108) o dX10_many_108 0 rfl ?_
      refine g_istore_n (pc := 109) o dX10_many_109 (by decide) ?_
      show ca_G Γ 5 _ _ [_, _, _, _, _] _
      exact lp_many3 o ρ I.1.2.2.2.2.2.1 _ _ (Pm.mk rfl rfl (kC.rf h)) 0 (by omega) 0 0 rfl rfl
    · skip
      refine g_tabIn (pc := 3) o 145 dX10_many_3 (by decide) (by decide) rfl (by decide) ?_
      refine g_aload_n (pc := 145) o dX10_many_145 rfl ?_
      refine g_getI (pc := 146) o 20 rfl rfl rfl inX10 (by decide) lf_X10_235 dX10_many_146 ?_
      exact g_iret o ρ dX10_many_149 (Pm.mk rfl rfl (kC.rf h))
    · skip
      refine g_tabIn (pc := 3) o 150 dX10_many_3 (by decide) (by decide) rfl (by decide) ?_
      refine g_aload_n (pc := 150) o dX10_many_150 rfl ?_
      refine g_getR (pc := 151) o 0 rfl rfl rfl inX10 (by decide) lf_X10_7 dX10_many_151 ?_
      refine g_sipush (pc := 154) o dX10_many_154 284 rfl ?_
      refine n_iald (pc := 157) o 284 (rfl) rfl ((by omega)) (by decide) dX10_many_157 ?_
      exact g_iret o ρ dX10_many_158 (Pm.mk rfl rfl (kC.rf h))
    · skip
      refine g_tabIn (pc := 3) o 159 dX10_many_3 (by decide) (by decide) rfl (by decide) ?_
      refine g_iconst (pc := 159) o dX10_many_159 0 rfl ?_
      refine g_istore_n (pc := 160) o dX10_many_160 (by decide) ?_
      show ca_G Γ 5 _ _ [_, _, _, _, _] _
      exact lp_many6 o ρ _ _ (Pm.mk rfl rfl (kC.rf h)) 0 (by omega) 0 0 rfl rfl
  · skip
    refine g_iconst (pc := 0) o dX10_many_0 0 rfl ?_
    refine g_istore_n (pc := 1) o dX10_many_1 (by decide) ?_
    show ca_G Γ 5 _ _ [_, _, _, _, _] _
    refine g_iload_n (pc := 2) o dX10_many_2 rfl ?_
    refine g_tabOut (pc := 3) o 187 dX10_many_3 ?_ (by decide) ?_
    · rcases Int.lt_or_le a.toInt 0 with z | z
      · exact Or.inl z
      · exact Or.inr (by rcases Int.lt_or_le 6 a.toInt with w | w; exact w; exact absurd ⟨z, w⟩ q)
    refine g_aload_n (pc := 187) o dX10_many_187 rfl ?_
    refine g_ldc (pc := 188) o dX10_many_188 lc_X10_68 ?_
    refine g_callVi (pc := 190) o (m_finds 0 (by decide) h) mt_X10_finds mv_X10_finds lk_X10_86 rfl rfl rfl (by decide) rfl (Nat.le_of_ble_eq_true rfl) dX10_many_190 ?_
    exact g_iret o ρ dX10_many_193 (Pm.eq (if_neg q) (Pm_fnd rfl (kC.rf h) (by decide)))

