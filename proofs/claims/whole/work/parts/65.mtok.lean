/-! ===== the model's reader: tokens, words, numbers ===== -/
abbrev MP (h : Mem) (f : Nat → Int32) (n : Nat) : Prop := h.1 51 20 = nI n ∧ n ≤ 120 ∧ h.1 66 = f
abbrev MT (h : Mem) (t : Nat × Nat) : Prop := h.1 51 21 = nI t.1 ∧ h.1 51 22 = nI t.2
def offT (h h2 : Mem) : Prop := (∀ c, c ≠ 51 → h2.1 c = h.1 c) ∧ ∀ j, j < 21 ∨ 24 < j → h2.1 51 j = h.1 51 j
theorem offT.rf (h : Mem) : offT h h := ⟨fun _ _ => rfl, fun _ _ => rfl⟩
theorem offT.tr {a b c : Mem} (x : offT a b) (y : offT b c) : offT a c := ⟨fun k hk => (y.1 k hk).trans (x.1 k hk), fun j hj => (y.2 j hj).trans (x.2 j hj)⟩
theorem offT.w {a b : Mem} (x : offT a b) {i : Nat} {v : Int32} (hi : i = 21 ∨ i = 22 ∨ i = 23 ∨ i = 24) : offT a (mw b 51 i v) := ⟨fun k hk => (mw_ne _ _ _ hk).trans (x.1 k hk), fun j hj => by rw [mw_same]; unfold upd; rw [if_neg (by omega)]; exact x.2 j hj⟩
theorem MP.of {h h2 : Mem} {f : Nat → Int32} {n : Nat} (M : MP h f n) (o : offT h h2) : MP h2 f n := ⟨(o.2 20 (by decide)).trans M.1, M.2.1, (o.1 66 (by decide)).trans M.2.2⟩
/-- from and to alone have changed -/
def offU (h h2 : Mem) : Prop := offT h h2 ∧ h2.1 51 23 = h.1 51 23 ∧ h2.1 51 24 = h.1 51 24
theorem offU.rf (h : Mem) : offU h h := ⟨offT.rf h, rfl, rfl⟩
theorem offU.w {a b : Mem} (x : offU a b) {i : Nat} {v : Int32} (hi : i = 21 ∨ i = 22) : offU a (mw b 51 i v) := ⟨x.1.w (by omega), by rw [mw_same]; unfold upd; rw [if_neg (by omega)]; exact x.2.1, by rw [mw_same]; unfold upd; rw [if_neg (by omega)]; exact x.2.2⟩
def bA (f : Nat → Int32) (n i : Nat) : Int32 := if i < n then f i else -1
theorem bA_1 (f : Nat → Int32) (n i : Nat) : rng (bA f n i) 97 122 ↔ srF f n i = 1 := by
  unfold bA
  by_cases w : i < n
  · rw [if_pos w, sr_v w]
    by_cases y : rng (f i) 97 122
    · rw [if_pos y]; exact ⟨fun _ => rfl, fun _ => y⟩
    · rw [if_neg y]
      refine ⟨fun z => absurd z y, fun z => ?_⟩
      split at z
      · omega
      · split at z <;> omega
  · rw [if_neg w]
    refine ⟨fun y => absurd y (by decide), fun y => ?_⟩
    unfold srF at y
    rw [if_neg w] at y
    omega
theorem bA_2 (f : Nat → Int32) (n i : Nat) : rng (bA f n i) 48 57 ↔ srF f n i = 2 := by
  unfold bA
  by_cases w : i < n
  · rw [if_pos w, sr_v w]
    by_cases y1 : rng (f i) 97 122
    · rw [if_pos y1]
      refine ⟨fun z => ?_, fun z => by omega⟩
      have := z.2; have := y1.1; omega
    · rw [if_neg y1]
      by_cases y : rng (f i) 48 57
      · rw [if_pos y]; exact ⟨fun _ => rfl, fun _ => y⟩
      · rw [if_neg y]
        refine ⟨fun z => absurd z y, fun z => ?_⟩
        split at z <;> omega
  · rw [if_neg w]
    refine ⟨fun y => absurd y (by decide), fun y => ?_⟩
    unfold srF at y
    rw [if_neg w] at y
    omega
theorem bA_3 (f : Nat → Int32) (n i : Nat) : bA f n i = 59 ↔ srF f n i = 3 := by
  unfold bA
  by_cases w : i < n
  · rw [if_pos w, sr_v w]
    by_cases y1 : rng (f i) 97 122
    · rw [if_pos y1]
      refine ⟨fun z => ?_, fun z => by omega⟩
      rw [z] at y1
      exact absurd y1 (by decide)
    · rw [if_neg y1]
      by_cases y : rng (f i) 48 57
      · rw [if_pos y]
        refine ⟨fun z => ?_, fun z => by omega⟩
        rw [z] at y
        exact absurd y (by decide)
      · rw [if_neg y]
        by_cases y3 : f i = 59
        · rw [if_pos y3]; exact ⟨fun _ => rfl, fun _ => y3⟩
        · rw [if_neg y3]; exact ⟨fun z => absurd z y3, fun z => by omega⟩
  · rw [if_neg w]
    refine ⟨fun y => absurd y (by decide), fun y => ?_⟩
    unfold srF at y
    rw [if_neg w] at y
    omega
set_option maxRecDepth 100000 in
set_option maxHeartbeats 400000 in
theorem m_byteAt {h : Mem} {f : Nat → Int32} {n : Nat} (M : MP h f n) (k : Nat) (hk : k ≤ 200) : Ct yX10_byteAt cX10_byteAt 2 (some .int) 0 0 [.ref 51, .int (nI k)] h (Ei (bA f n k) h) := by
  refine Ct.of (by decide) (Nat.le_of_ble_eq_true rfl) (fun Γ o ρ => ?_)
  show ca_G Γ 2 _ _ [_, _] _
  have l := M.2.1
  refine g_iload_n (pc := 0) o dX10_byteAt_0 rfl ?_
  refine g_aload_n (pc := 1) o dX10_byteAt_1 rfl ?_
  refine g_getIE (pc := 2) o 20 rfl rfl rfl inX10 (by decide) lf_X10_235 (M.1) dX10_byteAt_2 ?_
  refine g_ic_ge (pc := 5) o 17 dX10_byteAt_5 (by decide) (fun c5 => ?_) (fun c5 => ?_)
  · skip
    have w := (nI_leI (by omega) (by omega)).mp c5
    refine g_iconst (pc := 17) o dX10_byteAt_17 (-1) rfl ?_
    exact g_iret o ρ dX10_byteAt_18 (Ei.mk (by unfold bA; rw [if_neg (by omega)]) rfl)
  · skip
    have w := mt (nI_leI (a := n) (b := k) (by omega) (by omega)).mpr c5
    have e : h.1 66 k = f k := by rw [M.2.2]
    refine g_aload_n (pc := 8) o dX10_byteAt_8 rfl ?_
    refine g_getR (pc := 9) o 19 rfl rfl rfl inX10 (by decide) lf_X10_53 dX10_byteAt_9 ?_
    refine g_iload_n (pc := 12) o dX10_byteAt_12 rfl ?_
    refine n_ialdE (pc := 13) o k (rfl) rfl ((by omega)) (by decide) (e) dX10_byteAt_13 ?_
    refine g_goto (pc := 14) o 18 dX10_byteAt_14 (by decide) ?_
    exact g_iret o ρ dX10_byteAt_18 (Ei.mk (by unfold bA; rw [if_pos (by omega)]) rfl)
set_option maxRecDepth 100000 in
set_option maxHeartbeats 800000 in
theorem lp_tk2 {Γ : Fr} (o : ca_O Γ cX10_token 3 RX10 2 45) {Pr : Option Value → Mem → Prop} (ρ : ca_R Γ none Pr) {h0 : Mem} {f : Nat → Int32} {n : Nat} (M : MP h0 f n) (b e : Nat) (hp : ∀ h : Mem, h.1 51 21 = nI b → h.1 51 22 = nI e → offU h0 h → Pr none h) : ∀ i, i ≤ n → ∀ (h : Mem), h.1 51 21 = nI b → h.1 51 22 = nI i → offU h0 h → (lgF f n b → rnF f n (srF f n b) (n - i) i = e) → (¬ lgF f n b → i = e) → ca_G Γ 3 h 86 [some (.ref 51), some (.int (bI (srF f n b = 1))), some (.int (bI (srF f n b = 2)))] [] := by
  have l120 := M.2.1
  refine downI n (fun i hi ih => ?_)
  intro h e21 e22 O el en
  have M2 := M.of O.1
  have m1 := m_isLetter (bA f n i) h
  have m2 := m_isDigit (bA f n i) h
  have done : i = e → Pr none h := fun y => by subst y; exact hp h e21 e22 O
  have step : srF f n i = srF f n b → lgF f n b → ca_G Γ 3 h 122 [some (.ref 51), some (.int (bI (srF f n b = 1))), some (.int (bI (srF f n b = 2)))] [] := by
    intro eq lg
    have lt := sr_pos (f := f) (n := n) (b := i) (by rw [eq]; rcases lg with y | y <;> rw [y] <;> decide)
    have el2 := el lg
    rw [show n - i = (n - (i + 1)) + 1 by omega, rnF_s, if_pos eq] at el2
    refine g_aload_n (pc := 122) o dX10_token_122 rfl ?_
    refine g_dup (pc := 123) o dX10_token_123 rfl ?_
    refine g_getIE (pc := 124) o 22 rfl rfl rfl inX10 (by decide) lf_X10_246 (e22) dX10_token_124 ?_
    refine g_iconst (pc := 127) o dX10_token_127 1 rfl ?_
    refine g_iadd (pc := 128) o dX10_token_128 ?_
    refine g_put (pc := 129) o 22 rfl rfl rfl inX10 tyX10_ok nmX10 (by decide) lf_X10_246 rfl rfl rfl dX10_token_129 ?_
    refine g_goto (pc := 132) o 86 dX10_token_132 (by decide) ?_
    exact ih lt _ e21 (nI_1 i) (O.w (by decide)) (fun _ => el2) (fun y => absurd lg y)
  have stop : ¬ (srF f n i = srF f n b ∧ lgF f n b) → i = e := fun y => by
    by_cases lg : lgF f n b
    · have el2 := el lg
      by_cases lt : i < n
      · rw [show n - i = (n - (i + 1)) + 1 by omega, rnF_s, if_neg (fun z => y ⟨z, lg⟩)] at el2
        exact el2
      · rw [show n - i = 0 by omega] at el2
        exact el2
    · exact en lg
  have st104 : ¬ (srF f n b = 1 ∧ srF f n i = 1) → ca_G Γ 3 h 104 [some (.ref 51), some (.int (bI (srF f n b = 1))), some (.int (bI (srF f n b = 2)))] [] := by
    intro n1
    refine g_iload_n (pc := 104) o dX10_token_104 rfl ?_
    refine g_if_eq (pc := 105) o 135 dX10_token_105 (by decide) (fun c105 => ?_) (fun c105 => ?_)
    · skip
      have y := bI_0.mp c105
      exact g_vret o ρ dX10_token_135 (done (stop (fun z => z.2.elim (fun u => n1 ⟨u, z.1.trans u⟩) y)))
    · skip
      have y := bI_n0.mp c105
      refine g_aload_n (pc := 108) o dX10_token_108 rfl ?_
      refine g_aload_n (pc := 109) o dX10_token_109 rfl ?_
      refine g_getIE (pc := 110) o 22 rfl rfl rfl inX10 (by decide) lf_X10_246 (e22) dX10_token_110 ?_
      refine g_callVi (pc := 113) o (m_byteAt M2 i (by omega)) mt_X10_byteAt mv_X10_byteAt lk_X10_252 rfl rfl rfl (by decide) rfl (Nat.le_of_ble_eq_true rfl) dX10_token_113 ?_
      refine g_callSi (pc := 116) o (m2) mt_X10_isDigit ms_X10_isDigit lk_X10_258 rfl (by decide) rfl (Nat.le_of_ble_eq_true rfl) dX10_token_116 ?_
      refine g_if_eq (pc := 119) o 135 dX10_token_119 (by decide) (fun c119 => ?_) (fun c119 => ?_)
      · skip
        have y2 := mt (bA_2 f n i).mpr (bI_0.mp c119)
        exact g_vret o ρ dX10_token_135 (done (stop (fun z => y2 (z.1.trans y))))
      · skip
        have y2 := (bA_2 f n i).mp (bI_n0.mp c119)
        exact step (y2.trans y.symm) (Or.inr y)
  refine g_iload_n (pc := 86) o dX10_token_86 rfl ?_
  refine g_if_eq (pc := 87) o 104 dX10_token_87 (by decide) (fun c87 => ?_) (fun c87 => ?_)
  · skip
    have y := bI_0.mp c87
    exact st104 (fun z => y z.1)
  · skip
    have y := bI_n0.mp c87
    refine g_aload_n (pc := 90) o dX10_token_90 rfl ?_
    refine g_aload_n (pc := 91) o dX10_token_91 rfl ?_
    refine g_getIE (pc := 92) o 22 rfl rfl rfl inX10 (by decide) lf_X10_246 (e22) dX10_token_92 ?_
    refine g_callVi (pc := 95) o (m_byteAt M2 i (by omega)) mt_X10_byteAt mv_X10_byteAt lk_X10_252 rfl rfl rfl (by decide) rfl (Nat.le_of_ble_eq_true rfl) dX10_token_95 ?_
    refine g_callSi (pc := 98) o (m1) mt_X10_isLetter ms_X10_isLetter lk_X10_255 rfl (by decide) rfl (Nat.le_of_ble_eq_true rfl) dX10_token_98 ?_
    refine g_if_ne (pc := 101) o 122 dX10_token_101 (by decide) (fun c101 => ?_) (fun c101 => ?_)
    · skip
      have y2 := (bA_1 f n i).mp (bI_n0.mp c101)
      exact step (y2.trans y.symm) (Or.inl y)
    · skip
      have y2 := mt (bA_1 f n i).mpr (bI_0.mp c101)
      exact st104 (fun z => y2 z.2)
set_option maxRecDepth 100000 in
set_option maxHeartbeats 800000 in
theorem lp_tk1 {Γ : Fr} (o : ca_O Γ cX10_token 3 RX10 2 45) {h0 : Mem} {f : Nat → Int32} {n : Nat} (M : MP h0 f n) (b : Nat) (kk : ∀ (h : Mem), h.1 51 21 = nI b → offU h0 h → ca_G Γ 3 h 34 [some (.ref 51), none, none] []) : ∀ i, i ≤ n → ∀ (h : Mem), h.1 51 21 = nI i → offU h0 h → skF f n (n - i) i = b → ca_G Γ 3 h 8 [some (.ref 51), none, none] [] := by
  have l120 := M.2.1
  refine downI n (fun i hi ih => ?_)
  intro h e21 O eb
  have M2 := M.of O.1
  refine g_aload_n (pc := 8) o dX10_token_8 rfl ?_
  refine g_aload_n (pc := 9) o dX10_token_9 rfl ?_
  refine g_getIE (pc := 10) o 21 rfl rfl rfl inX10 (by decide) lf_X10_249 (e21) dX10_token_10 ?_
  refine g_callVi (pc := 13) o (m_byteAt M2 i (by omega)) mt_X10_byteAt mv_X10_byteAt lk_X10_252 rfl rfl rfl (by decide) rfl (Nat.le_of_ble_eq_true rfl) dX10_token_13 ?_
  refine g_bipush (pc := 16) o dX10_token_16 32 rfl ?_
  refine g_ic_ne (pc := 18) o 34 dX10_token_18 (by decide) (fun c18 => ?_) (fun c18 => ?_)
  · skip
    have w : ¬ (i < n ∧ f i = 32) := fun y => c18 (by unfold bA; rw [if_pos y.1]; exact y.2)
    have eb2 : i = b := by
      by_cases lt : i < n
      · rw [show n - i = (n - (i + 1)) + 1 by omega, skF_s, if_neg w] at eb
        exact eb
      · rw [show n - i = 0 by omega] at eb
        exact eb
    subst eb2
    exact kk h e21 O
  · skip
    have w : i < n ∧ f i = 32 := by
      unfold bA at c18
      by_cases lt : i < n
      · rw [if_pos lt] at c18; exact ⟨lt, c18⟩
      · rw [if_neg lt] at c18; exact absurd c18 (by decide)
    rw [show n - i = (n - (i + 1)) + 1 by omega, skF_s, if_pos w] at eb
    refine g_aload_n (pc := 21) o dX10_token_21 rfl ?_
    refine g_dup (pc := 22) o dX10_token_22 rfl ?_
    refine g_getIE (pc := 23) o 21 rfl rfl rfl inX10 (by decide) lf_X10_249 (e21) dX10_token_23 ?_
    refine g_iconst (pc := 26) o dX10_token_26 1 rfl ?_
    refine g_iadd (pc := 27) o dX10_token_27 ?_
    refine g_put (pc := 28) o 21 rfl rfl rfl inX10 tyX10_ok nmX10 (by decide) lf_X10_249 rfl rfl rfl dX10_token_28 ?_
    refine g_goto (pc := 31) o 8 dX10_token_31 (by decide) ?_
    exact ih w.1 _ (nI_1 i) (O.w (by decide)) eb
set_option maxRecDepth 100000 in
set_option maxHeartbeats 400000 in
theorem m_token {h : Mem} {f : Nat → Int32} {n : Nat} (M : MP h f n) (i : Nat) (hi : i ≤ n) (e22 : h.1 51 22 = nI i) : Ct yX10_token cX10_token 3 none 2 45 [.ref 51] h (Qv (fun h2 => MT h2 (tkF f n i) ∧ offU h h2)) := by
  refine Ct.of (by decide) (Nat.le_of_ble_eq_true rfl) (fun Γ o ρ => ?_)
  show ca_G Γ 3 _ _ [_, _, _] _
  have l120 := M.2.1
  refine g_aload_n (pc := 0) o dX10_token_0 rfl ?_
  refine g_aload_n (pc := 1) o dX10_token_1 rfl ?_
  refine g_getIE (pc := 2) o 22 rfl rfl rfl inX10 (by decide) lf_X10_246 (e22) dX10_token_2 ?_
  refine g_put (pc := 5) o 21 rfl rfl rfl inX10 tyX10_ok nmX10 (by decide) lf_X10_249 rfl rfl rfl dX10_token_5 ?_
  refine lp_tk1 o (h0 := h) M (skF f n (n - i) i) (fun h1 e21 O1 => ?_) i hi _ rfl ((offU.rf h).w (by decide)) rfl
  have sl := sk_le f n (n - i) i (by omega)
  have tl := te_le (f := f) sl.2
  have te : (tkF f n i) = (skF f n (n - i) i, teF f n (skF f n (n - i) i)) := rfl
  rw [te] at ρ
  generalize skF f n (n - i) i = b at *
  have M1 := M.of O1.1
  have m1 := m_isLetter (bA f n b) h1
  have m2 := m_isDigit (bA f n b) h1
  have q1 : bI (rng (bA f n b) 97 122) = bI (srF f n b = 1) := by unfold bI; by_cases y : srF f n b = 1; rw [if_pos y, if_pos ((bA_1 f n b).mpr y)]; rw [if_neg y, if_neg (mt (bA_1 f n b).mp y)]
  have q2 : bI (rng (bA f n b) 48 57) = bI (srF f n b = 2) := by unfold bI; by_cases y : srF f n b = 2; rw [if_pos y, if_pos ((bA_2 f n b).mpr y)]; rw [if_neg y, if_neg (mt (bA_2 f n b).mp y)]
  rw [q1] at m1
  rw [q2] at m2
  refine g_aload_n (pc := 34) o dX10_token_34 rfl ?_
  refine g_aload_n (pc := 35) o dX10_token_35 rfl ?_
  refine g_getIE (pc := 36) o 21 rfl rfl rfl inX10 (by decide) lf_X10_249 (e21) dX10_token_36 ?_
  refine g_callVi (pc := 39) o (m_byteAt M1 b (by omega)) mt_X10_byteAt mv_X10_byteAt lk_X10_252 rfl rfl rfl (by decide) rfl (Nat.le_of_ble_eq_true rfl) dX10_token_39 ?_
  refine g_callSi (pc := 42) o (m1) mt_X10_isLetter ms_X10_isLetter lk_X10_255 rfl (by decide) rfl (Nat.le_of_ble_eq_true rfl) dX10_token_42 ?_
  refine g_istore_n (pc := 45) o dX10_token_45 (by decide) ?_
  show ca_G Γ 3 _ _ [_, _, _] _
  refine g_aload_n (pc := 46) o dX10_token_46 rfl ?_
  refine g_aload_n (pc := 47) o dX10_token_47 rfl ?_
  refine g_getIE (pc := 48) o 21 rfl rfl rfl inX10 (by decide) lf_X10_249 (e21) dX10_token_48 ?_
  refine g_callVi (pc := 51) o (m_byteAt M1 b (by omega)) mt_X10_byteAt mv_X10_byteAt lk_X10_252 rfl rfl rfl (by decide) rfl (Nat.le_of_ble_eq_true rfl) dX10_token_51 ?_
  refine g_callSi (pc := 54) o (m2) mt_X10_isDigit ms_X10_isDigit lk_X10_258 rfl (by decide) rfl (Nat.le_of_ble_eq_true rfl) dX10_token_54 ?_
  refine g_istore_n (pc := 57) o dX10_token_57 (by decide) ?_
  show ca_G Γ 3 _ _ [_, _, _] _
  refine g_aload_n (pc := 58) o dX10_token_58 rfl ?_
  refine g_aload_n (pc := 59) o dX10_token_59 rfl ?_
  refine g_getIE (pc := 60) o 21 rfl rfl rfl inX10 (by decide) lf_X10_249 (e21) dX10_token_60 ?_
  refine g_aload_n (pc := 63) o dX10_token_63 rfl ?_
  refine g_getIE (pc := 64) o 20 rfl rfl rfl inX10 (by decide) lf_X10_235 (M1.1) dX10_token_64 ?_
  refine g_ic_ge (pc := 67) o 79 dX10_token_67 (by decide) (fun c67 => ?_) (fun c67 => ?_)
  · skip
    have w := (nI_leI (by omega) (by omega)).mp c67
    have s0 : srF f n b = 0 := by unfold srF; rw [if_neg (by omega)]
    have et : teF f n b = b := by unfold teF; rw [if_neg (by omega)]
    refine g_aload_n (pc := 79) o dX10_token_79 rfl ?_
    refine g_getIE (pc := 80) o 21 rfl rfl rfl inX10 (by decide) lf_X10_249 (e21) dX10_token_80 ?_
    refine g_put (pc := 83) o 22 rfl rfl rfl inX10 tyX10_ok nmX10 (by decide) lf_X10_246 rfl rfl rfl dX10_token_83 ?_
    exact lp_tk2 o ρ (h0 := h) M b (teF f n b) (fun h2 y1 y2 O2 => ⟨rfl, ⟨y1, y2⟩, O2⟩) b sl.2 _ e21 rfl (O1.w (by decide)) (fun y => absurd y (by rw [lgF, s0]; decide)) (fun _ => et.symm)
  · skip
    have w := mt (nI_leI (a := n) (b := b) (by omega) (by omega)).mpr c67
    refine g_aload_n (pc := 70) o dX10_token_70 rfl ?_
    refine g_getIE (pc := 71) o 21 rfl rfl rfl inX10 (by decide) lf_X10_249 (e21) dX10_token_71 ?_
    refine g_iconst (pc := 74) o dX10_token_74 1 rfl ?_
    refine g_iadd (pc := 75) o dX10_token_75 ?_
    refine g_goto (pc := 76) o 83 dX10_token_76 (by decide) ?_
    refine g_put (pc := 83) o 22 rfl rfl rfl inX10 tyX10_ok nmX10 (by decide) lf_X10_246 rfl rfl rfl dX10_token_83 ?_
    refine lp_tk2 o ρ (h0 := h) M b (teF f n b) (fun h2 y1 y2 O2 => ⟨rfl, ⟨y1, y2⟩, O2⟩) (b + 1) (by omega) _ e21 (nI_1 b) (O1.w (by decide)) (fun y => ?_) (fun y => ?_)
    · unfold teF
      rw [if_pos (by omega), if_pos y]
    · unfold teF
      rw [if_pos (by omega), if_neg y]
theorem mw_id {h : Mem} {k i : Nat} {v : Int32} (e : h.1 k i = v) : mw h k i v = h := by
  unfold mw
  refine Prod.ext ?_ rfl
  funext j
  by_cases w : j = k
  · subst w
    show (if j = j then upd (h.1 j) i v else h.1 j) = h.1 j
    rw [if_pos rfl]
    funext u
    unfold upd
    by_cases y : u = i
    · rw [if_pos y, y]; exact e.symm
    · rw [if_neg y]
  · show (if j = k then upd (h.1 k) i v else h.1 j) = h.1 j
    rw [if_neg w]
set_option maxRecDepth 100000 in
set_option maxHeartbeats 400000 in
theorem m_needs1 {h : Mem} {f : Nat → Int32} {n : Nat} (M : MP h f n) {t : Nat × Nat} (R : MT h t) (ok : tkO n t) (e24 : h.1 51 24 = 0) (x : Int32) (hx : ¬ x = 0) : Ct yX10_needs cX10_needs 2 none 3 67 [.ref 51, .int x] h (Qv (fun h2 => MT h2 (nxF f n t) ∧ h2.1 51 24 = 0 ∧ offT h h2 ∧ h2.1 51 23 = h.1 51 23)) := by
  refine Ct.of (by decide) (Nat.le_of_ble_eq_true rfl) (fun Γ o ρ => ?_)
  show ca_G Γ 2 _ _ [_, _] _
  have O1 : offT h (mw h 51 24 0) := (offT.rf h).w (by decide)
  refine g_aload_n (pc := 0) o dX10_needs_0 rfl ?_
  refine g_aload_n (pc := 1) o dX10_needs_1 rfl ?_
  refine g_getIE (pc := 2) o 24 rfl rfl rfl inX10 (by decide) lf_X10_261 (e24) dX10_needs_2 ?_
  refine g_if_ne (pc := 5) o 12 dX10_needs_5 (by decide) (fun c5 => ?_) (fun c5 => ?_)
  · skip
    exact absurd rfl c5
  · skip
    refine g_iload_n (pc := 8) o dX10_needs_8 rfl ?_
    refine g_if_ne (pc := 9) o 16 dX10_needs_9 (by decide) (fun c9 => ?_) (fun c9 => ?_)
    · skip
      refine g_iconst (pc := 16) o dX10_needs_16 0 rfl ?_
      refine g_put (pc := 17) o 24 rfl rfl rfl inX10 tyX10_ok nmX10 (by decide) lf_X10_261 rfl rfl rfl dX10_needs_17 ?_
      refine g_aload_n (pc := 20) o dX10_needs_20 rfl ?_
      refine g_getIE (pc := 21) o 24 rfl rfl rfl inX10 (by decide) lf_X10_261 (rfl) dX10_needs_21 ?_
      refine g_if_ne (pc := 24) o 31 dX10_needs_24 (by decide) (fun c24 => ?_) (fun c24 => ?_)
      · skip
        exact absurd rfl c24
      · skip
        refine g_aload_n (pc := 27) o dX10_needs_27 rfl ?_
        refine g_callVQv (pc := 28) o (m_token (h := mw h 51 24 0) (M.of O1) t.2 ok.2 R.2) mt_X10_token mv_X10_token lk_X10_264 rfl rfl rfl (by decide) rfl (Nat.le_of_ble_eq_true rfl) dX10_needs_28 ?_
        rintro h2 w
        obtain ⟨w1, w2⟩ := w
        exact g_vret o ρ dX10_needs_31 ⟨rfl, w1, w2.2.2.trans rfl, O1.tr w2.1, w2.2.1⟩
    · skip
      exact absurd c9 hx
set_option maxRecDepth 100000 in
set_option maxHeartbeats 400000 in
theorem m_needs0 {h : Mem} (e24 : h.1 51 24 = 0) : Ct yX10_needs cX10_needs 2 none 3 67 [.ref 51, .int 0] h (Ev (mw h 51 24 1)) := by
  refine Ct.of (by decide) (Nat.le_of_ble_eq_true rfl) (fun Γ o ρ => ?_)
  show ca_G Γ 2 _ _ [_, _] _
  refine g_aload_n (pc := 0) o dX10_needs_0 rfl ?_
  refine g_aload_n (pc := 1) o dX10_needs_1 rfl ?_
  refine g_getIE (pc := 2) o 24 rfl rfl rfl inX10 (by decide) lf_X10_261 (e24) dX10_needs_2 ?_
  refine g_if_ne (pc := 5) o 12 dX10_needs_5 (by decide) (fun c5 => ?_) (fun c5 => ?_)
  · skip
    exact absurd rfl c5
  · skip
    refine g_iload_n (pc := 8) o dX10_needs_8 rfl ?_
    refine g_if_ne (pc := 9) o 16 dX10_needs_9 (by decide) (fun c9 => ?_) (fun c9 => ?_)
    · skip
      exact absurd rfl c9
    · skip
      refine g_iconst (pc := 12) o dX10_needs_12 1 rfl ?_
      refine g_goto (pc := 13) o 17 dX10_needs_13 (by decide) ?_
      refine g_put (pc := 17) o 24 rfl rfl rfl inX10 tyX10_ok nmX10 (by decide) lf_X10_261 rfl rfl rfl dX10_needs_17 ?_
      refine g_aload_n (pc := 20) o dX10_needs_20 rfl ?_
      refine g_getIE (pc := 21) o 24 rfl rfl rfl inX10 (by decide) lf_X10_261 (rfl) dX10_needs_21 ?_
      refine g_if_ne (pc := 24) o 31 dX10_needs_24 (by decide) (fun c24 => ?_) (fun c24 => ?_)
      · skip
        exact g_vret o ρ dX10_needs_31 ⟨rfl, rfl⟩
      · skip
        exact absurd (show (1 : Int32) = 0 from c24) (by decide)
set_option maxRecDepth 100000 in
set_option maxHeartbeats 400000 in
theorem m_needsX {h : Mem} (e24 : h.1 51 24 = 1) (x : Int32) : Ct yX10_needs cX10_needs 2 none 3 67 [.ref 51, .int x] h (Ev h) := by
  refine Ct.of (by decide) (Nat.le_of_ble_eq_true rfl) (fun Γ o ρ => ?_)
  show ca_G Γ 2 _ _ [_, _] _
  refine g_aload_n (pc := 0) o dX10_needs_0 rfl ?_
  refine g_aload_n (pc := 1) o dX10_needs_1 rfl ?_
  refine g_getIE (pc := 2) o 24 rfl rfl rfl inX10 (by decide) lf_X10_261 (e24) dX10_needs_2 ?_
  refine g_if_ne (pc := 5) o 12 dX10_needs_5 (by decide) (fun c5 => ?_) (fun c5 => ?_)
  · skip
    refine g_iconst (pc := 12) o dX10_needs_12 1 rfl ?_
    refine g_goto (pc := 13) o 17 dX10_needs_13 (by decide) ?_
    refine g_put (pc := 17) o 24 rfl rfl rfl inX10 tyX10_ok nmX10 (by decide) lf_X10_261 rfl rfl rfl dX10_needs_17 ?_
    refine g_aload_n (pc := 20) o dX10_needs_20 rfl ?_
    refine g_getIE (pc := 21) o 24 rfl rfl rfl inX10 (by decide) lf_X10_261 (rfl) dX10_needs_21 ?_
    refine g_if_ne (pc := 24) o 31 dX10_needs_24 (by decide) (fun c24 => ?_) (fun c24 => ?_)
    · skip
      exact g_vret o ρ dX10_needs_31 ⟨rfl, mw_id e24⟩
    · skip
      exact absurd (show (1 : Int32) = 0 from c24) (by decide)
  · skip
    exact absurd c5 (by decide)
def ltF (i j : Nat) : Int32 := if j < lnF i then chF i j else 0
theorem lt_z : ∀ i, i < 12 → ∀ j, j < 7 → (ltF i j = 0 ↔ lnF i ≤ j) := by decide +kernel
set_option maxRecDepth 100000 in
set_option maxHeartbeats 400000 in
theorem m_letAt {h : Mem} {f : Nat → Int32} {n : Nat} (M : MP h f n) {t : Nat × Nat} (R : MT h t) (ok : tkO n t) (k : Nat) (hk : k < 7) (x : Int32) : Ct yX10_isLetterAt cX10_isLetterAt 3 (some .boolean) 1 21 [.ref 51, .int (nI k), .int x] h (Ei (bI (x = 0 ∨ bA f n (t.1 + k) = x)) h) := by
  refine Ct.of (by decide) (Nat.le_of_ble_eq_true rfl) (fun Γ o ρ => ?_)
  show ca_G Γ 3 _ _ [_, _, _] _
  have l := M.2.1
  refine g_iload_n (pc := 0) o dX10_isLetterAt_0 rfl ?_
  refine g_if_eq (pc := 1) o 18 dX10_isLetterAt_1 (by decide) (fun c1 => ?_) (fun c1 => ?_)
  · skip
    refine g_iconst (pc := 18) o dX10_isLetterAt_18 1 rfl ?_
    refine g_goto (pc := 19) o 23 dX10_isLetterAt_19 (by decide) ?_
    exact g_zret o ρ (by first | rfl | exact bI_b) dX10_isLetterAt_23 (Ei.mk (bI_t (Or.inl c1)) rfl)
  · skip
    refine g_aload_n (pc := 4) o dX10_isLetterAt_4 rfl ?_
    refine g_aload_n (pc := 5) o dX10_isLetterAt_5 rfl ?_
    refine g_getIE (pc := 6) o 21 rfl rfl rfl inX10 (by decide) lf_X10_249 (R.1) dX10_isLetterAt_6 ?_
    refine g_iload_n (pc := 9) o dX10_isLetterAt_9 rfl ?_
    refine g_iadd (pc := 10) o dX10_isLetterAt_10 ?_
    rw [nI_add]
    refine g_callVi (pc := 11) o (m_byteAt M (t.1 + k) (by omega)) mt_X10_byteAt mv_X10_byteAt lk_X10_252 rfl rfl rfl (by decide) rfl (Nat.le_of_ble_eq_true rfl) dX10_isLetterAt_11 ?_
    refine g_iload_n (pc := 14) o dX10_isLetterAt_14 rfl ?_
    refine g_ic_ne (pc := 15) o 22 dX10_isLetterAt_15 (by decide) (fun c15 => ?_) (fun c15 => ?_)
    · skip
      refine g_iconst (pc := 22) o dX10_isLetterAt_22 0 rfl ?_
      exact g_zret o ρ (by first | rfl | exact bI_b) dX10_isLetterAt_23 (Ei.mk (bI_f (fun y => y.elim c1 c15)) rfl)
    · skip
      refine g_iconst (pc := 18) o dX10_isLetterAt_18 1 rfl ?_
      refine g_goto (pc := 19) o 23 dX10_isLetterAt_19 (by decide) ?_
      exact g_zret o ρ (by first | rfl | exact bI_b) dX10_isLetterAt_23 (Ei.mk (bI_t (Or.inr c15)) rfl)
theorem wd_l {f : Nat → Int32} {n : Nat} {t : Nat × Nat} (ok : tkO n t) {i : Nat} (hi : i < 12) (e : t.2 - t.1 = lnF i) : wdP f t i ↔ ∀ j, j < 7 → (ltF i j = 0 ∨ bA f n (t.1 + j) = ltF i j) := by
  have l7 := ln_7 i hi
  constructor
  · rintro ⟨_, w⟩ j hj
    by_cases y : j < lnF i
    · refine Or.inr ?_
      unfold bA ltF
      rw [if_pos (by omega), if_pos y]
      exact (wdB_t f t.1 i (lnF i)).mp w j y
    · exact Or.inl ((lt_z i hi j hj).mpr (by omega))
  · intro h
    refine ⟨e, (wdB_t f t.1 i (lnF i)).mpr (fun j hj => ?_)⟩
    rcases h j (by omega) with y | y
    · have := (lt_z i hi j (by omega)).mp y
      omega
    · unfold bA ltF at y
      rw [if_pos (by omega), if_pos hj] at y
      exact y
set_option maxRecDepth 100000 in
set_option maxHeartbeats 400000 in
theorem m_isWord {h : Mem} {f : Nat → Int32} {n : Nat} (M : MP h f n) {t : Nat × Nat} (R : MT h t) (ok : tkO n t) (e24 : h.1 51 24 = 0) (i : Nat) (hi : i < 12) : Ct yX10_isWord cX10_isWord 9 (some .boolean) 2 43 [.ref 51, .int (ltF i 0), .int (ltF i 1), .int (ltF i 2), .int (ltF i 3), .int (ltF i 4), .int (ltF i 5), .int (ltF i 6)] h (Ei (bI (wdP f t i)) h) := by
  refine Ct.of (by decide) (Nat.le_of_ble_eq_true rfl) (fun Γ o ρ => ?_)
  show ca_G Γ 9 _ _ [_, _, _, _, _, _, _, _, _] _
  have l7 := ln_7 i hi
  have l := M.2.1
  have z := lt_z i hi
  have st142 : ∀ (x : Int32), ¬ wdP f t i → ca_G Γ 9 h 142 [some (.ref 51), some (.int (ltF i 0)), some (.int (ltF i 1)), some (.int (ltF i 2)), some (.int (ltF i 3)), some (.int (ltF i 4)), some (.int (ltF i 5)), some (.int (ltF i 6)), some (.int x)] [] := by
    intro x nw
    refine g_iconst (pc := 142) o dX10_isWord_142 0 rfl ?_
    exact g_zret o ρ (by first | rfl | exact bI_b) dX10_isWord_143 (Ei.mk (bI_f nw) rfl)
  have st47 : ∀ (x : Int32), x = nI (lnF i) → ca_G Γ 9 h 47 [some (.ref 51), some (.int (ltF i 0)), some (.int (ltF i 1)), some (.int (ltF i 2)), some (.int (ltF i 3)), some (.int (ltF i 4)), some (.int (ltF i 5)), some (.int (ltF i 6)), none] [.int x] := by
    rintro x rfl
    refine g_istore (pc := 47) o dX10_isWord_47 (by decide) ?_
    show ca_G Γ 9 _ _ [_, _, _, _, _, _, _, _, _] _
    refine g_aload_n (pc := 49) o dX10_isWord_49 rfl ?_
    refine g_getIE (pc := 50) o 24 rfl rfl rfl inX10 (by decide) lf_X10_261 (e24) dX10_isWord_50 ?_
    refine g_if_ne (pc := 53) o 142 dX10_isWord_53 (by decide) (fun c53 => ?_) (fun c53 => ?_)
    · skip
      exact absurd rfl c53
    · skip
      refine g_aload_n (pc := 56) o dX10_isWord_56 rfl ?_
      refine g_getIE (pc := 57) o 22 rfl rfl rfl inX10 (by decide) lf_X10_246 (R.2) dX10_isWord_57 ?_
      refine g_aload_n (pc := 60) o dX10_isWord_60 rfl ?_
      refine g_getIE (pc := 61) o 21 rfl rfl rfl inX10 (by decide) lf_X10_249 (R.1) dX10_isWord_61 ?_
      refine g_isub (pc := 64) o dX10_isWord_64 ?_
      rw [pk_sub ok.1]
      refine g_iload (pc := 65) o dX10_isWord_65 rfl ?_
      refine g_ic_ne (pc := 67) o 142 dX10_isWord_67 (by decide) (fun c67 => ?_) (fun c67 => ?_)
      · skip
        have y := mt (nI_eq (a := t.2 - t.1) (b := lnF i) (by omega) (by omega)).mpr c67
        exact st142 _ (fun w => y w.1)
      · skip
        have y := (nI_eq (a := t.2 - t.1) (b := lnF i) (by omega) (by omega)).mp c67
        have wl := wd_l ok hi y (f := f)
        refine g_aload_n (pc := 70) o dX10_isWord_70 rfl ?_
        refine g_iconst (pc := 71) o dX10_isWord_71 0 rfl ?_
        refine g_iload_n (pc := 72) o dX10_isWord_72 rfl ?_
        refine g_callVi (pc := 73) o (m_letAt M R ok 0 (by decide) (ltF i 0)) mt_X10_isLetterAt mv_X10_isLetterAt lk_X10_267 rfl rfl rfl (by decide) rfl (Nat.le_of_ble_eq_true rfl) dX10_isWord_73 ?_
        refine g_if_eq (pc := 76) o 142 dX10_isWord_76 (by decide) (fun c76 => ?_) (fun c76 => ?_)
        · skip
          exact st142 _ (fun w => bI_0.mp c76 (wl.mp w 0 (by decide)))
        · skip
          refine g_aload_n (pc := 79) o dX10_isWord_79 rfl ?_
          refine g_iconst (pc := 80) o dX10_isWord_80 1 rfl ?_
          refine g_iload_n (pc := 81) o dX10_isWord_81 rfl ?_
          refine g_callVi (pc := 82) o (m_letAt M R ok 1 (by decide) (ltF i 1)) mt_X10_isLetterAt mv_X10_isLetterAt lk_X10_267 rfl rfl rfl (by decide) rfl (Nat.le_of_ble_eq_true rfl) dX10_isWord_82 ?_
          refine g_if_eq (pc := 85) o 142 dX10_isWord_85 (by decide) (fun c85 => ?_) (fun c85 => ?_)
          · skip
            exact st142 _ (fun w => bI_0.mp c85 (wl.mp w 1 (by decide)))
          · skip
            refine g_aload_n (pc := 88) o dX10_isWord_88 rfl ?_
            refine g_iconst (pc := 89) o dX10_isWord_89 2 rfl ?_
            refine g_iload_n (pc := 90) o dX10_isWord_90 rfl ?_
            refine g_callVi (pc := 91) o (m_letAt M R ok 2 (by decide) (ltF i 2)) mt_X10_isLetterAt mv_X10_isLetterAt lk_X10_267 rfl rfl rfl (by decide) rfl (Nat.le_of_ble_eq_true rfl) dX10_isWord_91 ?_
            refine g_if_eq (pc := 94) o 142 dX10_isWord_94 (by decide) (fun c94 => ?_) (fun c94 => ?_)
            · skip
              exact st142 _ (fun w => bI_0.mp c94 (wl.mp w 2 (by decide)))
            · skip
              refine g_aload_n (pc := 97) o dX10_isWord_97 rfl ?_
              refine g_iconst (pc := 98) o dX10_isWord_98 3 rfl ?_
              refine g_iload (pc := 99) o dX10_isWord_99 rfl ?_
              refine g_callVi (pc := 101) o (m_letAt M R ok 3 (by decide) (ltF i 3)) mt_X10_isLetterAt mv_X10_isLetterAt lk_X10_267 rfl rfl rfl (by decide) rfl (Nat.le_of_ble_eq_true rfl) dX10_isWord_101 ?_
              refine g_if_eq (pc := 104) o 142 dX10_isWord_104 (by decide) (fun c104 => ?_) (fun c104 => ?_)
              · skip
                exact st142 _ (fun w => bI_0.mp c104 (wl.mp w 3 (by decide)))
              · skip
                refine g_aload_n (pc := 107) o dX10_isWord_107 rfl ?_
                refine g_iconst (pc := 108) o dX10_isWord_108 4 rfl ?_
                refine g_iload (pc := 109) o dX10_isWord_109 rfl ?_
                refine g_callVi (pc := 111) o (m_letAt M R ok 4 (by decide) (ltF i 4)) mt_X10_isLetterAt mv_X10_isLetterAt lk_X10_267 rfl rfl rfl (by decide) rfl (Nat.le_of_ble_eq_true rfl) dX10_isWord_111 ?_
                refine g_if_eq (pc := 114) o 142 dX10_isWord_114 (by decide) (fun c114 => ?_) (fun c114 => ?_)
                · skip
                  exact st142 _ (fun w => bI_0.mp c114 (wl.mp w 4 (by decide)))
                · skip
                  refine g_aload_n (pc := 117) o dX10_isWord_117 rfl ?_
                  refine g_iconst (pc := 118) o dX10_isWord_118 5 rfl ?_
                  refine g_iload (pc := 119) o dX10_isWord_119 rfl ?_
                  refine g_callVi (pc := 121) o (m_letAt M R ok 5 (by decide) (ltF i 5)) mt_X10_isLetterAt mv_X10_isLetterAt lk_X10_267 rfl rfl rfl (by decide) rfl (Nat.le_of_ble_eq_true rfl) dX10_isWord_121 ?_
                  refine g_if_eq (pc := 124) o 142 dX10_isWord_124 (by decide) (fun c124 => ?_) (fun c124 => ?_)
                  · skip
                    exact st142 _ (fun w => bI_0.mp c124 (wl.mp w 5 (by decide)))
                  · skip
                    refine g_aload_n (pc := 127) o dX10_isWord_127 rfl ?_
                    refine g_bipush (pc := 128) o dX10_isWord_128 6 rfl ?_
                    refine g_iload (pc := 130) o dX10_isWord_130 rfl ?_
                    refine g_callVi (pc := 132) o (m_letAt M R ok 6 (by decide) (ltF i 6)) mt_X10_isLetterAt mv_X10_isLetterAt lk_X10_267 rfl rfl rfl (by decide) rfl (Nat.le_of_ble_eq_true rfl) dX10_isWord_132 ?_
                    refine g_if_eq (pc := 135) o 142 dX10_isWord_135 (by decide) (fun c135 => ?_) (fun c135 => ?_)
                    · skip
                      exact st142 _ (fun w => bI_0.mp c135 (wl.mp w 6 (by decide)))
                    · skip
                      refine g_iconst (pc := 138) o dX10_isWord_138 1 rfl ?_
                      refine g_goto (pc := 139) o 143 dX10_isWord_139 (by decide) ?_
                      exact g_zret o ρ (by first | rfl | exact bI_b) dX10_isWord_143 (Ei.mk (bI_t (wl.mpr (fun j hj => by rcases (by omega : j = 0 ∨ j = 1 ∨ j = 2 ∨ j = 3 ∨ j = 4 ∨ j = 5 ∨ j = 6) with u | u | u | u | u | u | u <;> rw [u]; exact bI_n0.mp c76; exact bI_n0.mp c85; exact bI_n0.mp c94; exact bI_n0.mp c104; exact bI_n0.mp c114; exact bI_n0.mp c124; exact bI_n0.mp c135))) rfl)
  refine g_iload_n (pc := 0) o dX10_isWord_0 rfl ?_
  refine g_if_ne (pc := 1) o 8 dX10_isWord_1 (by decide) (fun c1 => ?_) (fun c1 => ?_)
  · skip
    have y2 := mt (z 2 (by decide)).mpr c1
    refine g_iload (pc := 8) o dX10_isWord_8 rfl ?_
    refine g_if_ne (pc := 10) o 17 dX10_isWord_10 (by decide) (fun c10 => ?_) (fun c10 => ?_)
    · skip
      have y3 := mt (z 3 (by decide)).mpr c10
      refine g_iload (pc := 17) o dX10_isWord_17 rfl ?_
      refine g_if_ne (pc := 19) o 26 dX10_isWord_19 (by decide) (fun c19 => ?_) (fun c19 => ?_)
      · skip
        have y4 := mt (z 4 (by decide)).mpr c19
        refine g_iload (pc := 26) o dX10_isWord_26 rfl ?_
        refine g_if_ne (pc := 28) o 35 dX10_isWord_28 (by decide) (fun c28 => ?_) (fun c28 => ?_)
        · skip
          have y5 := mt (z 5 (by decide)).mpr c28
          refine g_iload (pc := 35) o dX10_isWord_35 rfl ?_
          refine g_if_ne (pc := 37) o 45 dX10_isWord_37 (by decide) (fun c37 => ?_) (fun c37 => ?_)
          · skip
            have y6 := mt (z 6 (by decide)).mpr c37
            refine g_bipush (pc := 45) o dX10_isWord_45 7 rfl ?_
            exact st47 _ (by rw [show lnF i = 7 by omega]; rfl)
          · skip
            have y6 := (z 6 (by decide)).mp c37
            refine g_bipush (pc := 40) o dX10_isWord_40 6 rfl ?_
            refine g_goto (pc := 42) o 47 dX10_isWord_42 (by decide) ?_
            exact st47 _ (by rw [show lnF i = 6 by omega]; rfl)
        · skip
          have y5 := (z 5 (by decide)).mp c28
          refine g_iconst (pc := 31) o dX10_isWord_31 5 rfl ?_
          refine g_goto (pc := 32) o 47 dX10_isWord_32 (by decide) ?_
          exact st47 _ (by rw [show lnF i = 5 by omega]; rfl)
      · skip
        have y4 := (z 4 (by decide)).mp c19
        refine g_iconst (pc := 22) o dX10_isWord_22 4 rfl ?_
        refine g_goto (pc := 23) o 47 dX10_isWord_23 (by decide) ?_
        exact st47 _ (by rw [show lnF i = 4 by omega]; rfl)
    · skip
      have y3 := (z 3 (by decide)).mp c10
      refine g_iconst (pc := 13) o dX10_isWord_13 3 rfl ?_
      refine g_goto (pc := 14) o 47 dX10_isWord_14 (by decide) ?_
      exact st47 _ (by rw [show lnF i = 3 by omega]; rfl)
  · skip
    have y2 := (z 2 (by decide)).mp c1
    refine g_iconst (pc := 4) o dX10_isWord_4 2 rfl ?_
    refine g_goto (pc := 5) o 47 dX10_isWord_5 (by decide) ?_
    exact st47 _ (by rw [show lnF i = 2 by omega]; rfl)

